/-! SUM and ACTS in the reference -/
def encM1 (t : Int) : Int := if t < 256 then 3000 + mcd t else 4000 + mcd (t - 256)
def raw (t : Int) : Int := if t < 256 then t else t - 256
/-- the marks of one more term of a SUM (the first one or not) -/
def mkS1 (ln cell : Int) (fst : Bool) (g : Nat → Int) (t : Int) : Nat → Int :=
  if fst = true then (if raw t = cell then mk ln g cell false else mk ln (mk ln g cell true) (raw t) true) else mk ln g (raw t) true
def mkS (ln cell : Int) : Bool → (Nat → Int) → List Int → Nat → Int
  | _, g, [] => g
  | b, g, t :: r => mkS ln cell false (mkS1 ln cell b g t) r
theorem mkS_app (ln cell : Int) (t : Int) : ∀ (l : List Int) (b : Bool) (g : Nat → Int), mkS ln cell b g (l ++ [t]) = mkS1 ln cell (b && l.isEmpty) (mkS ln cell b g l) t
  | [], b, g => by simp [mkS]
  | x :: l, b, g => by
    show mkS ln cell false (mkS1 ln cell b g x) (l ++ [t]) = _
    rw [mkS_app ln cell t l false]
    simp [mkS]
def encA : List p_Ac → List Int
  | [] => []
  | (c, l) :: r => (if 126 ≤ c then [5000 + (if c = 126 then 1 else if c = 127 then 0 else 2)] else (2000 + mcd c) :: l.map encM1) ++ encA r
theorem encA_app (l r : List p_Ac) : encA (l ++ r) = encA l ++ encA r := by
  induction l with
  | nil => rfl
  | cons x l ih =>
    obtain ⟨c, a⟩ := x
    simp [encA, ih]
def mkA (ln : Int) (g : Nat → Int) : List p_Ac → Nat → Int
  | [] => g
  | (c, l) :: r => mkA ln (if 126 ≤ c then g else mkS ln c true g l) r
theorem mkA_app (ln : Int) (l r : List p_Ac) (g : Nat → Int) : mkA ln g (l ++ r) = mkA ln (mkA ln g l) r := by
  induction l generalizing g with
  | nil => rfl
  | cons x l ih =>
    obtain ⟨c, a⟩ := x
    exact ih _
theorem raw_t {t s : Int} (ht : tcd t) (hs : s = 0 ∨ s = 256) : raw (t + s) = t := by
  unfold raw tcd at *
  rcases hs with rfl | rfl
  · rw [if_pos (by omega)]; omega
  · rw [if_neg (by omega)]; omega
theorem encM1_t {t s : Int} (ht : tcd t) (hs : s = 0 ∨ s = 256) : encM1 (t + s) = (if s = 0 then 3000 else 4000) + mcd t := by
  unfold encM1
  have := ht
  unfold tcd at this
  rcases hs with rfl | rfl
  · rw [if_pos (by omega), if_pos rfl, Int.add_zero]
  · rw [if_neg (by omega), if_neg (by decide), show t + 256 - 256 = t by omega]
theorem mkS1_bd {ln cell : Int} {g : Nat → Int} (hln : 0 ≤ ln ∧ ln ≤ 8) (hg : ∀ c, c < 8 → 0 ≤ g c ∧ g c ≤ 10) (hc : cell ≤ 115) (b : Bool) {t : Int} (ht : raw t ≤ 115) : ∀ c, c < 8 → 0 ≤ mkS1 ln cell b g t c ∧ mkS1 ln cell b g t c ≤ 10 := by
  unfold mkS1
  split
  · split
    · exact mk_bd hln hg _ _ hc
    · exact mk_bd hln (mk_bd hln hg _ _ hc) _ _ ht
  · exact mk_bd hln hg _ _ ht
/-- SUM terms are such -/
def smO (l : List Int) : Prop := ∀ t ∈ l, tcd (raw t)
theorem mkS_bd {ln cell : Int} (hln : 0 ≤ ln ∧ ln ≤ 8) (hc : cell ≤ 115) : ∀ (l : List Int) (b : Bool) (g : Nat → Int), smO l → (∀ c, c < 8 → 0 ≤ g c ∧ g c ≤ 10) → ∀ c, c < 8 → 0 ≤ mkS ln cell b g l c ∧ mkS ln cell b g l c ≤ 10
  | [], _, g, _, hg => hg
  | t :: r, b, g, ht, hg => mkS_bd hln hc r false _ (fun x hx => ht x (List.mem_cons_of_mem _ hx)) (mkS1_bd hln hg hc b (tcd_le (ht t List.mem_cons_self)))
theorem pM_ok {τ : Nat → Int} {z : Nat} : ∀ (k : Nat) (s : Int) (p : Nat) (acc : List Int) (r : Option (List Int)) (q : Nat), p ≤ z → (s = 0 ∨ s = 256) → smO acc → pM τ z k s p acc = (r, q) → p ≤ q ∧ q ≤ z ∧ ∀ l, r = some l → l.length + p ≤ acc.length + q ∧ smO l ∧ l.length ≤ acc.length + k ∧ (1 ≤ k → acc.length < l.length)
  | 0, s, p, acc, r, q, hp, hs, ha, h => by
    unfold pM at h
    cases h
    exact ⟨Nat.le_refl _, hp, fun l e => by cases e; exact ⟨by omega, ha, by omega, by omega⟩⟩
  | k + 1, s, p, acc, r, q, hp, hs, ha, h => by
    have h1 := pT_le τ z p hp
    have h0 : hr τ z (pT τ z p).2 ≠ -1 → (pT τ z p).2 < z := hr_le
    have c1 := pT_cd τ z p
    unfold pM at h
    split at h
    · cases h
      exact ⟨h1.1, h1.2.1, fun l e => by cases e⟩
    · have h3 := h1.2.2 (by omega)
      have c2 := c1 (by omega)
      have hs2 : smO (acc ++ [(pT τ z p).1 + s]) := by
        intro t ht
        rcases List.mem_append.mp ht with h2 | h2
        · exact ha t h2
        · rw [List.mem_singleton.mp h2, raw_t c2 hs]
          exact c2
      split at h
      · rename_i hc
        have h4 := h0 (by omega)
        have kk := pM_ok k _ _ _ r q (by omega) (by split; exact Or.inr rfl; exact Or.inl rfl) hs2 h
        refine ⟨by omega, kk.2.1, fun l e => ?_⟩
        have k3 := kk.2.2 l e
        have k4 := k3.1
        have k5 := k3.2.2.1
        have k6 := k3.2.2.2
        simp only [List.length_append, List.length_cons, List.length_nil] at k4 k5 k6
        exact ⟨by omega, k3.2.1, by omega, fun _ => by omega⟩
      · cases h
        refine ⟨h1.1, h1.2.1, fun l e => ?_⟩
        cases e
        simp only [List.length_append, List.length_cons, List.length_nil]
        exact ⟨by omega, hs2, by omega, fun _ => by omega⟩
section
variable {X : Nat → List Int32} {u w : Nat} {S : m_H} {V : v_V} {K : v_K}
set_option maxRecDepth 100000 in
set_option maxHeartbeats 4000000 in
theorem ct_sum1 (hM : MdS S) {a z p : Nat} {τ : Nat → Int} {o ln : Int} {st : List Int} {g : Nat → Int} {x : Int} (hx : 0 ≤ x ∧ x ≤ 200) (h : MP V a z τ p 1 o ln st g) (hp : p ≤ z ∧ z ≤ 160) (k : ∀ V', MP V' a z τ p 1 o ln st g → MF a V V' → V' 176 = V 176 → K u w none S V') : y_R X 4 121 u w [.ref 170, iv x] S V K := by
  refine y_ent (lv' := [(0, .ref 170), (1, iv x)]) (Nat.le_of_ble_eq_true rfl) rfl ?_
  refine y_ic rfl rfl ?_
  refine y_st (lv' := [(2, iv 0), (0, .ref 170), (1, iv x)]) rfl rfl (fun d => rfl) ?_
  refine y_ic rfl rfl ?_
  refine y_st (lv' := [(3, iv 1), (2, iv 0), (0, .ref 170), (1, iv x)]) rfl rfl (fun d => rfl) ?_
  refine y_bi rfl rfl (by decide) ?_
  refine y_st (lv' := [(4, iv 43), (3, iv 1), (2, iv 0), (0, .ref 170), (1, iv x)]) rfl rfl (fun d => rfl) ?_
  refine y_ld (x := iv 1) rfl rfl (fun d => rfl) ?_
  refine y_zeq rfl rfl rfl (by decide) (fun g1 => absurd g1 (by decide)) (fun g1 => ?_)
  refine y_ld (x := .ref 170) rfl rfl (fun d => rfl) ?_
  refine y_cV (as := [.ref 170]) rfl rfl rfl rfl rfl (md170 hM) ⟨rfl, (Nat.le_of_ble_eq_true rfl), (Nat.le_of_ble_eq_true rfl)⟩ (by decide) (ct_term1 hM h ?_)
  refine y_nv ?_
  refine y_st (lv' := [(5, iv 0), (4, iv 43), (3, iv 1), (2, iv 0), (0, .ref 170), (1, iv x)]) rfl rfl (fun d => rfl) ?_
  refine y_ld (x := iv 0) rfl rfl (fun d => rfl) ?_
  refine y_zne rfl rfl rfl (by decide) (fun g2 => absurd g2 (by decide)) (fun g2 => ?_)
  refine y_ld (x := .ref 170) rfl rfl (fun d => rfl) ?_
  refine y_ld (x := iv x) rfl rfl (fun d => rfl) ?_
  refine y_ld (x := iv 0) rfl rfl (fun d => rfl) ?_
  refine y_ld (x := iv x) rfl rfl (fun d => rfl) ?_
  refine y_jeq rfl rfl rfl (by omega) (fun g3 => ?_) (fun g3 => ?_)
  · refine y_ic rfl rfl ?_
    refine y_cV (as := [.ref 170, iv x, iv 0]) rfl rfl rfl rfl rfl (md170 hM) ⟨rfl, (Nat.le_of_ble_eq_true rfl), (Nat.le_of_ble_eq_true rfl)⟩ (by decide) (ct_marks1 hM h ?_)
    refine y_n0 ?_
    refine y_ld (x := iv 0) rfl rfl (fun d => rfl) ?_
    refine y_zgt rfl rfl rfl (by decide) (fun g4 => absurd g4 (by decide)) (fun g4 => ?_)
    refine y_ld (x := iv 0) rfl rfl (fun d => rfl) ?_
    refine y_ld (x := iv x) rfl rfl (fun d => rfl) ?_
    refine y_jeq rfl rfl rfl (by omega) (fun g5 => ?_) (fun g5 => ?_)
    · refine y_ld (x := .ref 170) rfl rfl (fun d => rfl) ?_
      refine y_ld (x := iv 43) rfl rfl (fun d => rfl) ?_
      refine y_bi rfl rfl (by decide) ?_
      refine y_jne rfl rfl rfl (by decide) (fun g6 => absurd g6 (by decide)) (fun g6 => ?_)
      refine y_si rfl rfl (by decide) ?_
      refine y_go rfl rfl ?_
      refine y_ld (x := iv 0) rfl rfl (fun d => rfl) ?_
      refine y_add (z := 3000) rfl rfl rfl ?_
      refine y_cV (as := [.ref 170, iv 3000]) rfl rfl rfl rfl rfl (md170 hM) ⟨rfl, (Nat.le_of_ble_eq_true rfl), (Nat.le_of_ble_eq_true rfl)⟩ (by decide) (ct_emits1 hM h ?_)
      refine y_n0 ?_
      refine y_inc (z := 1) (lv' := [(2, iv 1), (5, iv 0), (4, iv 43), (3, iv 1), (0, .ref 170), (1, iv x)]) rfl rfl rfl rfl rfl ?_
      refine y_ld (x := .ref 170) rfl rfl (fun d => rfl) ?_
      refine y_cV (as := [.ref 170]) rfl rfl rfl rfl rfl (md170 hM) ⟨rfl, (Nat.le_of_ble_eq_true rfl), (Nat.le_of_ble_eq_true rfl)⟩ (by decide) (ct_here hM h (by omega) ?_)
      refine y_nv ?_
      refine y_st (lv' := [(4, iv (hr τ z p)), (2, iv 1), (5, iv 0), (3, iv 1), (0, .ref 170), (1, iv x)]) rfl rfl (fun d => rfl) ?_
      refine y_ld (x := .ref 170) rfl rfl (fun d => rfl) ?_
      refine y_gI (i := 12) (e := 1) rfl rfl rfl (md170 hM) rfl h.2.2.2.1 ?_
      refine y_zne rfl rfl rfl (by decide) (fun g7 => ?_) (fun g7 => absurd g7 (by decide))
      refine y_ic rfl rfl ?_
      refine y_st (lv' := [(3, iv 0), (4, iv (hr τ z p)), (2, iv 1), (5, iv 0), (0, .ref 170), (1, iv x)]) rfl rfl (fun d => rfl) ?_
      refine y_ld (x := .ref 170) rfl rfl (fun d => rfl) ?_
      refine y_in rfl rfl (fun d => rfl) ?_
      refine y_gI (i := 10) (e := (p : Int)) rfl rfl rfl (md170 hM) rfl h.2.1 ?_
      refine y_ld (x := iv 0) rfl rfl (fun d => rfl) ?_
      refine y_zeq rfl rfl rfl (by decide) (fun g8 => ?_) (fun g8 => absurd g8 (by decide))
      refine y_ic rfl rfl ?_
      refine y_add (z := ((p : Int) + 0)) rfl rfl rfl ?_
      refine y_pI (i := 10) rfl rfl rfl (md170 hM) rfl rfl ?_
      refine y_go rfl rfl ?_
      refine y_ld (x := iv 0) rfl rfl (fun d => rfl) ?_
      refine y_zeq rfl rfl rfl (by decide) (fun g9 => ?_) (fun g9 => absurd g9 (by decide))
      refine y_ret rfl (fun d => rfl) ?_
      exact k _ (MP_f (p' := p) (wr' := 1) (o' := o) (ln' := ln) h ⟨rfl, rfl, rfl, rfl, rfl, rfl⟩ rfl h.2.2.2.1 h.2.2.2.2.1 h.2.2.2.2.2.1) (MF_u0 (by decide) (MF_rf a V)) rfl
    · refine y_ld (x := .ref 170) rfl rfl (fun d => rfl) ?_
      refine y_ld (x := iv 0) rfl rfl (fun d => rfl) ?_
      refine y_ic rfl rfl ?_
      refine y_cV (as := [.ref 170, iv 0, iv 1]) rfl rfl rfl rfl rfl (md170 hM) ⟨rfl, (Nat.le_of_ble_eq_true rfl), (Nat.le_of_ble_eq_true rfl)⟩ (by decide) (ct_marks1 hM h ?_)
      refine y_n0 ?_
      refine y_ld (x := .ref 170) rfl rfl (fun d => rfl) ?_
      refine y_ld (x := iv 43) rfl rfl (fun d => rfl) ?_
      refine y_bi rfl rfl (by decide) ?_
      refine y_jne rfl rfl rfl (by decide) (fun g10 => absurd g10 (by decide)) (fun g10 => ?_)
      refine y_si rfl rfl (by decide) ?_
      refine y_go rfl rfl ?_
      refine y_ld (x := iv 0) rfl rfl (fun d => rfl) ?_
      refine y_add (z := 3000) rfl rfl rfl ?_
      refine y_cV (as := [.ref 170, iv 3000]) rfl rfl rfl rfl rfl (md170 hM) ⟨rfl, (Nat.le_of_ble_eq_true rfl), (Nat.le_of_ble_eq_true rfl)⟩ (by decide) (ct_emits1 hM h ?_)
      refine y_n0 ?_
      refine y_inc (z := 1) (lv' := [(2, iv 1), (5, iv 0), (4, iv 43), (3, iv 1), (0, .ref 170), (1, iv x)]) rfl rfl rfl rfl rfl ?_
      refine y_ld (x := .ref 170) rfl rfl (fun d => rfl) ?_
      refine y_cV (as := [.ref 170]) rfl rfl rfl rfl rfl (md170 hM) ⟨rfl, (Nat.le_of_ble_eq_true rfl), (Nat.le_of_ble_eq_true rfl)⟩ (by decide) (ct_here hM h (by omega) ?_)
      refine y_nv ?_
      refine y_st (lv' := [(4, iv (hr τ z p)), (2, iv 1), (5, iv 0), (3, iv 1), (0, .ref 170), (1, iv x)]) rfl rfl (fun d => rfl) ?_
      refine y_ld (x := .ref 170) rfl rfl (fun d => rfl) ?_
      refine y_gI (i := 12) (e := 1) rfl rfl rfl (md170 hM) rfl h.2.2.2.1 ?_
      refine y_zne rfl rfl rfl (by decide) (fun g11 => ?_) (fun g11 => absurd g11 (by decide))
      refine y_ic rfl rfl ?_
      refine y_st (lv' := [(3, iv 0), (4, iv (hr τ z p)), (2, iv 1), (5, iv 0), (0, .ref 170), (1, iv x)]) rfl rfl (fun d => rfl) ?_
      refine y_ld (x := .ref 170) rfl rfl (fun d => rfl) ?_
      refine y_in rfl rfl (fun d => rfl) ?_
      refine y_gI (i := 10) (e := (p : Int)) rfl rfl rfl (md170 hM) rfl h.2.1 ?_
      refine y_ld (x := iv 0) rfl rfl (fun d => rfl) ?_
      refine y_zeq rfl rfl rfl (by decide) (fun g12 => ?_) (fun g12 => absurd g12 (by decide))
      refine y_ic rfl rfl ?_
      refine y_add (z := ((p : Int) + 0)) rfl rfl rfl ?_
      refine y_pI (i := 10) rfl rfl rfl (md170 hM) rfl rfl ?_
      refine y_go rfl rfl ?_
      refine y_ld (x := iv 0) rfl rfl (fun d => rfl) ?_
      refine y_zeq rfl rfl rfl (by decide) (fun g13 => ?_) (fun g13 => absurd g13 (by decide))
      refine y_ret rfl (fun d => rfl) ?_
      exact k _ (MP_f (p' := p) (wr' := 1) (o' := o) (ln' := ln) h ⟨rfl, rfl, rfl, rfl, rfl, rfl⟩ rfl h.2.2.2.1 h.2.2.2.2.1 h.2.2.2.2.2.1) (MF_u0 (by decide) (MF_rf a V)) rfl
  · refine y_ic rfl rfl ?_
    refine y_go rfl rfl ?_
    refine y_cV (as := [.ref 170, iv x, iv 1]) rfl rfl rfl rfl rfl (md170 hM) ⟨rfl, (Nat.le_of_ble_eq_true rfl), (Nat.le_of_ble_eq_true rfl)⟩ (by decide) (ct_marks1 hM h ?_)
    refine y_n0 ?_
    refine y_ld (x := iv 0) rfl rfl (fun d => rfl) ?_
    refine y_zgt rfl rfl rfl (by decide) (fun g14 => absurd g14 (by decide)) (fun g14 => ?_)
    refine y_ld (x := iv 0) rfl rfl (fun d => rfl) ?_
    refine y_ld (x := iv x) rfl rfl (fun d => rfl) ?_
    refine y_jeq rfl rfl rfl (by omega) (fun g15 => ?_) (fun g15 => ?_)
    · refine y_ld (x := .ref 170) rfl rfl (fun d => rfl) ?_
      refine y_ld (x := iv 43) rfl rfl (fun d => rfl) ?_
      refine y_bi rfl rfl (by decide) ?_
      refine y_jne rfl rfl rfl (by decide) (fun g16 => absurd g16 (by decide)) (fun g16 => ?_)
      refine y_si rfl rfl (by decide) ?_
      refine y_go rfl rfl ?_
      refine y_ld (x := iv 0) rfl rfl (fun d => rfl) ?_
      refine y_add (z := 3000) rfl rfl rfl ?_
      refine y_cV (as := [.ref 170, iv 3000]) rfl rfl rfl rfl rfl (md170 hM) ⟨rfl, (Nat.le_of_ble_eq_true rfl), (Nat.le_of_ble_eq_true rfl)⟩ (by decide) (ct_emits1 hM h ?_)
      refine y_n0 ?_
      refine y_inc (z := 1) (lv' := [(2, iv 1), (5, iv 0), (4, iv 43), (3, iv 1), (0, .ref 170), (1, iv x)]) rfl rfl rfl rfl rfl ?_
      refine y_ld (x := .ref 170) rfl rfl (fun d => rfl) ?_
      refine y_cV (as := [.ref 170]) rfl rfl rfl rfl rfl (md170 hM) ⟨rfl, (Nat.le_of_ble_eq_true rfl), (Nat.le_of_ble_eq_true rfl)⟩ (by decide) (ct_here hM h (by omega) ?_)
      refine y_nv ?_
      refine y_st (lv' := [(4, iv (hr τ z p)), (2, iv 1), (5, iv 0), (3, iv 1), (0, .ref 170), (1, iv x)]) rfl rfl (fun d => rfl) ?_
      refine y_ld (x := .ref 170) rfl rfl (fun d => rfl) ?_
      refine y_gI (i := 12) (e := 1) rfl rfl rfl (md170 hM) rfl h.2.2.2.1 ?_
      refine y_zne rfl rfl rfl (by decide) (fun g17 => ?_) (fun g17 => absurd g17 (by decide))
      refine y_ic rfl rfl ?_
      refine y_st (lv' := [(3, iv 0), (4, iv (hr τ z p)), (2, iv 1), (5, iv 0), (0, .ref 170), (1, iv x)]) rfl rfl (fun d => rfl) ?_
      refine y_ld (x := .ref 170) rfl rfl (fun d => rfl) ?_
      refine y_in rfl rfl (fun d => rfl) ?_
      refine y_gI (i := 10) (e := (p : Int)) rfl rfl rfl (md170 hM) rfl h.2.1 ?_
      refine y_ld (x := iv 0) rfl rfl (fun d => rfl) ?_
      refine y_zeq rfl rfl rfl (by decide) (fun g18 => ?_) (fun g18 => absurd g18 (by decide))
      refine y_ic rfl rfl ?_
      refine y_add (z := ((p : Int) + 0)) rfl rfl rfl ?_
      refine y_pI (i := 10) rfl rfl rfl (md170 hM) rfl rfl ?_
      refine y_go rfl rfl ?_
      refine y_ld (x := iv 0) rfl rfl (fun d => rfl) ?_
      refine y_zeq rfl rfl rfl (by decide) (fun g19 => ?_) (fun g19 => absurd g19 (by decide))
      refine y_ret rfl (fun d => rfl) ?_
      exact k _ (MP_f (p' := p) (wr' := 1) (o' := o) (ln' := ln) h ⟨rfl, rfl, rfl, rfl, rfl, rfl⟩ rfl h.2.2.2.1 h.2.2.2.2.1 h.2.2.2.2.2.1) (MF_u0 (by decide) (MF_rf a V)) rfl
    · refine y_ld (x := .ref 170) rfl rfl (fun d => rfl) ?_
      refine y_ld (x := iv 0) rfl rfl (fun d => rfl) ?_
      refine y_ic rfl rfl ?_
      refine y_cV (as := [.ref 170, iv 0, iv 1]) rfl rfl rfl rfl rfl (md170 hM) ⟨rfl, (Nat.le_of_ble_eq_true rfl), (Nat.le_of_ble_eq_true rfl)⟩ (by decide) (ct_marks1 hM h ?_)
      refine y_n0 ?_
      refine y_ld (x := .ref 170) rfl rfl (fun d => rfl) ?_
      refine y_ld (x := iv 43) rfl rfl (fun d => rfl) ?_
      refine y_bi rfl rfl (by decide) ?_
      refine y_jne rfl rfl rfl (by decide) (fun g20 => absurd g20 (by decide)) (fun g20 => ?_)
      refine y_si rfl rfl (by decide) ?_
      refine y_go rfl rfl ?_
      refine y_ld (x := iv 0) rfl rfl (fun d => rfl) ?_
      refine y_add (z := 3000) rfl rfl rfl ?_
      refine y_cV (as := [.ref 170, iv 3000]) rfl rfl rfl rfl rfl (md170 hM) ⟨rfl, (Nat.le_of_ble_eq_true rfl), (Nat.le_of_ble_eq_true rfl)⟩ (by decide) (ct_emits1 hM h ?_)
      refine y_n0 ?_
      refine y_inc (z := 1) (lv' := [(2, iv 1), (5, iv 0), (4, iv 43), (3, iv 1), (0, .ref 170), (1, iv x)]) rfl rfl rfl rfl rfl ?_
      refine y_ld (x := .ref 170) rfl rfl (fun d => rfl) ?_
      refine y_cV (as := [.ref 170]) rfl rfl rfl rfl rfl (md170 hM) ⟨rfl, (Nat.le_of_ble_eq_true rfl), (Nat.le_of_ble_eq_true rfl)⟩ (by decide) (ct_here hM h (by omega) ?_)
      refine y_nv ?_
      refine y_st (lv' := [(4, iv (hr τ z p)), (2, iv 1), (5, iv 0), (3, iv 1), (0, .ref 170), (1, iv x)]) rfl rfl (fun d => rfl) ?_
      refine y_ld (x := .ref 170) rfl rfl (fun d => rfl) ?_
      refine y_gI (i := 12) (e := 1) rfl rfl rfl (md170 hM) rfl h.2.2.2.1 ?_
      refine y_zne rfl rfl rfl (by decide) (fun g21 => ?_) (fun g21 => absurd g21 (by decide))
      refine y_ic rfl rfl ?_
      refine y_st (lv' := [(3, iv 0), (4, iv (hr τ z p)), (2, iv 1), (5, iv 0), (0, .ref 170), (1, iv x)]) rfl rfl (fun d => rfl) ?_
      refine y_ld (x := .ref 170) rfl rfl (fun d => rfl) ?_
      refine y_in rfl rfl (fun d => rfl) ?_
      refine y_gI (i := 10) (e := (p : Int)) rfl rfl rfl (md170 hM) rfl h.2.1 ?_
      refine y_ld (x := iv 0) rfl rfl (fun d => rfl) ?_
      refine y_zeq rfl rfl rfl (by decide) (fun g22 => ?_) (fun g22 => absurd g22 (by decide))
      refine y_ic rfl rfl ?_
      refine y_add (z := ((p : Int) + 0)) rfl rfl rfl ?_
      refine y_pI (i := 10) rfl rfl rfl (md170 hM) rfl rfl ?_
      refine y_go rfl rfl ?_
      refine y_ld (x := iv 0) rfl rfl (fun d => rfl) ?_
      refine y_zeq rfl rfl rfl (by decide) (fun g23 => ?_) (fun g23 => absurd g23 (by decide))
      refine y_ret rfl (fun d => rfl) ?_
      exact k _ (MP_f (p' := p) (wr' := 1) (o' := o) (ln' := ln) h ⟨rfl, rfl, rfl, rfl, rfl, rfl⟩ rfl h.2.2.2.1 h.2.2.2.2.1 h.2.2.2.2.2.1) (MF_u0 (by decide) (MF_rf a V)) rfl
theorem smO_app {l : List Int} {t : Int} (h : smO l) (ht : tcd (raw t)) : smO (l ++ [t]) := by
  intro x hx
  rcases List.mem_append.mp hx with h2 | h2
  · exact h x h2
  · rw [List.mem_singleton.mp h2]
    exact ht
theorem acc_nil {l : List Int} {n : Nat} (h : l.length = n) (hn : n = 0) : (true && l.isEmpty) = true := by
  have : l = [] := List.length_eq_zero_iff.mp (by omega)
  rw [this]
  rfl
theorem acc_cons {l : List Int} {n : Nat} (h : l.length = n) (hn : ¬ n = 0) : (true && l.isEmpty) = false := by
  cases l with
  | nil => exact absurd h.symm hn
  | cons x r => rfl
set_option maxRecDepth 100000 in
set_option maxHeartbeats 4000000 in
theorem lp_sum (hM : MdS S) {a z : Nat} {τ : Nat → Int} {o cell : Int} {ln : Int} {st0 : List Int} {g0 : Nat → Int} (hT : Tp τ a z) (hln : 0 ≤ ln ∧ ln ≤ 8) (hg0 : ∀ c, c < 8 → 0 ≤ g0 c ∧ g0 c ≤ 10) (hcell : tcd cell) : ∀ (m n : Nat) (V : v_V) (K : v_K) (u w p : Nat) (sg s : Int) (acc : List Int), n + m = 4 → 1 ≤ m → acc.length = n → (sg = 43 ∧ s = 0 ∨ sg = 45 ∧ s = 256) → (n = 0 → s = 0) → p ≤ z → st0.length + acc.length ≤ p + 2 → smO acc → MP V a z τ p 0 o ln (st0 ++ acc.map encM1) (mkS ln cell true g0 acc) → (∀ l q V', pM τ z (4 - n) s p acc = (some l, q) → MP V' a z τ q 0 o ln (st0 ++ l.map encM1) (mkS ln cell true g0 l) → MF a V V' → V' 176 = V 176 → K u w none S V') → (∀ q V' st' g', pM τ z (4 - n) s p acc = (none, q) → MP V' a z τ q 1 o ln st' g' → MF a V V' → V' 176 = V 176 → K u w none S V') → y_E X 3 121 (100 * m) u w 8 [(0, .ref 170), (1, iv (mcd cell)), (2, iv (n : Int)), (3, iv 1), (4, iv sg)] [] S V K := by
  intro m
  induction m with
  | zero => intros; omega
  | succ m ih =>
    intro n V K u w p sg s acc hnm hm1 hal hs hs0 hp hl hsa h k1 k2
    have hz := hT.2.1
    have hcr := mcd_rg hcell
    refine y_mono (F' := 100 * m + 100) ?_ (by omega)
    refine y_ld (x := iv 1) rfl rfl (fun d => rfl) ?_
    refine y_zeq rfl rfl rfl (by decide) (fun g1 => absurd g1 (by decide)) (fun g1 => ?_)
    refine y_ld (x := .ref 170) rfl rfl (fun d => rfl) ?_
    refine y_cV (as := [.ref 170]) rfl rfl rfl rfl rfl (md170 hM) ⟨rfl, (Nat.le_of_ble_eq_true rfl), (Nat.le_of_ble_eq_true rfl)⟩ (by omega) (ct_term hM hT h (by omega) (fun V1 q2 h1 f1 e1 => ?_) (fun V3 x5 q4 h3 f3 e3 b6 => ?_))
    · have pl7 := pT_le τ z p (by omega)
      have mr8 := mcd_rg (pT_cd τ z p q2)
      refine y_nv ?_
      refine y_st (lv' := [(5, iv (mcd (pT τ z p).1)), (0, .ref 170), (1, iv (mcd cell)), (2, iv (n : Int)), (3, iv 1), (4, iv sg)]) rfl rfl (fun d => rfl) ?_
      refine y_ld (x := iv (n : Int)) rfl rfl (fun d => rfl) ?_
      refine y_zne rfl rfl rfl (by omega) (fun g2 => ?_) (fun g2 => ?_)
      · refine y_ld (x := iv (n : Int)) rfl rfl (fun d => rfl) ?_
        refine y_zgt rfl rfl rfl (by omega) (fun g3 => ?_) (fun g3 => absurd g3 (by omega))
        refine y_ld (x := .ref 170) rfl rfl (fun d => rfl) ?_
        refine y_ld (x := iv (mcd (pT τ z p).1)) rfl rfl (fun d => rfl) ?_
        refine y_ic rfl rfl ?_
        refine y_cV (as := [.ref 170, iv (mcd (pT τ z p).1), iv 1]) rfl rfl rfl rfl rfl (md170 hM) ⟨rfl, (Nat.le_of_ble_eq_true rfl), (Nat.le_of_ble_eq_true rfl)⟩ (by omega) (ct_marks (b := true) hM (pT_cd τ z p q2) h1 hT.1 hln (mkS_bd hln (tcd_le hcell) acc true g0 hsa hg0) (fun V9 h9 f9 e9 => ?_))
        refine y_n0 ?_
        refine y_ld (x := .ref 170) rfl rfl (fun d => rfl) ?_
        refine y_ld (x := iv sg) rfl rfl (fun d => rfl) ?_
        refine y_bi rfl rfl (by decide) ?_
        refine y_jne rfl rfl rfl (by omega) (fun g4 => ?_) (fun g4 => ?_)
        · refine y_si rfl rfl (by decide) ?_
          refine y_ld (x := iv (mcd (pT τ z p).1)) rfl rfl (fun d => rfl) ?_
          refine y_add (z := (4000 + (mcd (pT τ z p).1))) rfl rfl rfl ?_
          have hr1 := raw_t (s := s) (pT_cd τ z p q2) (by omega)
          have he1 := encM1_t (s := s) (pT_cd τ z p q2) (by omega)
          have hsm : smO (acc ++ [(pT τ z p).1 + s]) := smO_app hsa (by rw [hr1]; exact (pT_cd τ z p q2))
          have hmk : mkS1 ln cell (true && acc.isEmpty) (mkS ln cell true g0 acc) ((pT τ z p).1 + s) = mk ln (mkS ln cell true g0 acc) (pT τ z p).1 true := by
            rw [acc_cons hal (by omega)]; unfold mkS1; rw [if_neg (by decide), hr1]
          refine y_cV (as := [.ref 170, iv (4000 + (mcd (pT τ z p).1))]) rfl rfl rfl rfl rfl (md170 hM) ⟨rfl, (Nat.le_of_ble_eq_true rfl), (Nat.le_of_ble_eq_true rfl)⟩ (by omega) (ct_emits hM h9 hT.1 (by simp [encT_len]; omega) (fun V10 h10 f10 e10 => ?_))
          refine y_n0 ?_
          refine y_inc (z := ((n + 1 : Nat) : Int)) (lv' := [(2, iv ((n + 1 : Nat) : Int)), (5, iv (mcd (pT τ z p).1)), (0, .ref 170), (1, iv (mcd cell)), (3, iv 1), (4, iv sg)]) rfl rfl rfl (by omega) rfl ?_
          refine y_ld (x := .ref 170) rfl rfl (fun d => rfl) ?_
          refine y_cV (as := [.ref 170]) rfl rfl rfl rfl rfl (md170 hM) ⟨rfl, (Nat.le_of_ble_eq_true rfl), (Nat.le_of_ble_eq_true rfl)⟩ (by omega) (ct_here hM h10 (by omega) ?_)
          have hq82 := hr_rg hT ((pT τ z p).2)
          refine y_nv ?_
          refine y_st (lv' := [(4, iv (hr τ z ((pT τ z p).2))), (2, iv ((n + 1 : Nat) : Int)), (5, iv (mcd (pT τ z p).1)), (0, .ref 170), (1, iv (mcd cell)), (3, iv 1)]) rfl rfl (fun d => rfl) ?_
          refine y_ld (x := .ref 170) rfl rfl (fun d => rfl) ?_
          refine y_gI (i := 12) (e := 0) rfl rfl rfl (md170 hM) rfl h10.2.2.2.1 ?_
          refine y_zne rfl rfl rfl (by decide) (fun g5 => absurd g5 (by decide)) (fun g5 => ?_)
          refine y_ld (x := iv ((n + 1 : Nat) : Int)) rfl rfl (fun d => rfl) ?_
          refine y_ic rfl rfl ?_
          refine y_jge rfl rfl rfl (by omega) (fun g6 => ?_) (fun g6 => ?_)
          · refine y_ic rfl rfl ?_
            refine y_st (lv' := [(3, iv 0), (4, iv (hr τ z ((pT τ z p).2))), (2, iv ((n + 1 : Nat) : Int)), (5, iv (mcd (pT τ z p).1)), (0, .ref 170), (1, iv (mcd cell))]) rfl rfl (fun d => rfl) ?_
            refine y_ld (x := .ref 170) rfl rfl (fun d => rfl) ?_
            refine y_in rfl rfl (fun d => rfl) ?_
            refine y_gI (i := 10) (e := ((pT τ z p).2 : Int)) rfl rfl rfl (md170 hM) rfl h10.2.1 ?_
            refine y_ld (x := iv 0) rfl rfl (fun d => rfl) ?_
            refine y_zeq rfl rfl rfl (by decide) (fun g7 => ?_) (fun g7 => absurd g7 (by decide))
            refine y_ic rfl rfl ?_
            refine y_add (z := (((pT τ z p).2 : Int) + 0)) rfl rfl rfl ?_
            refine y_pI (i := 10) rfl rfl rfl (md170 hM) rfl rfl ?_
            refine y_go rfl rfl ?_
            refine y_lv (l' := [(0, .ref 170), (1, iv (mcd cell)), (2, iv ((n + 1 : Nat) : Int)), (3, iv 0), (4, iv (hr τ z ((pT τ z p).2)))]) rfl ⟨rfl, rfl, rfl, rfl, rfl, trivial⟩ ?_
            refine y_ld (x := iv 0) rfl rfl (fun d => rfl) ?_
            refine y_zeq rfl rfl rfl (by decide) (fun g8 => ?_) (fun g8 => absurd g8 (by decide))
            refine y_ret rfl (fun d => rfl) ?_
            refine k1 (acc ++ [(pT τ z p).1 + s]) _ _ (by rw [show 4 - n = (4 - (n + 1)) + 1 by omega]; unfold pM; rw [if_neg (by omega), if_neg (by omega)]) ?_ (MF_u0 (by decide) (MF_tr (MF_tr (MF_tr (MF_rf a V) f1) f9) f10)) (e10.trans (e9.trans (e1.trans rfl)))
            rw [List.map_append, ← List.append_assoc, mkS_app]
            exact (by rw [hmk, show List.map encM1 [(pT τ z p).1 + s] = [4000 + (mcd (pT τ z p).1)] by simp only [List.map_cons, List.map_nil]; rw [he1, if_neg (by omega)]]; exact (MP_f (p' := (pT τ z p).2) (wr' := 0) (o' := o) (ln' := ln) h10 ⟨rfl, rfl, rfl, rfl, rfl, rfl⟩ rfl h10.2.2.2.1 h10.2.2.2.2.1 h10.2.2.2.2.2.1))
          · refine y_ld (x := iv (hr τ z ((pT τ z p).2))) rfl rfl (fun d => rfl) ?_
            refine y_bi rfl rfl (by decide) ?_
            refine y_jeq rfl rfl rfl (by omega) (fun g9 => ?_) (fun g9 => ?_)
            · refine y_ic rfl rfl ?_
              refine y_go rfl rfl ?_
              refine y_st (lv' := [(3, iv 1), (4, iv (hr τ z ((pT τ z p).2))), (2, iv ((n + 1 : Nat) : Int)), (5, iv (mcd (pT τ z p).1)), (0, .ref 170), (1, iv (mcd cell))]) rfl rfl (fun d => rfl) ?_
              refine y_ld (x := .ref 170) rfl rfl (fun d => rfl) ?_
              refine y_in rfl rfl (fun d => rfl) ?_
              refine y_gI (i := 10) (e := ((pT τ z p).2 : Int)) rfl rfl rfl (md170 hM) rfl h10.2.1 ?_
              refine y_ld (x := iv 1) rfl rfl (fun d => rfl) ?_
              refine y_zeq rfl rfl rfl (by decide) (fun g10 => absurd g10 (by decide)) (fun g10 => ?_)
              refine y_ic rfl rfl ?_
              refine y_go rfl rfl ?_
              refine y_add (z := (((pT τ z p).2 : Int) + 1)) rfl rfl rfl ?_
              refine y_pI (i := 10) rfl rfl rfl (md170 hM) rfl rfl ?_
              have pl7 := hr_le (τ := τ) (z := z) (p := (pT τ z p).2) (by omega)
              refine y_go rfl rfl ?_
              refine y_lv (l' := [(0, .ref 170), (1, iv (mcd cell)), (2, iv ((n + 1 : Nat) : Int)), (3, iv 1), (4, iv (hr τ z ((pT τ z p).2)))]) rfl ⟨rfl, rfl, rfl, rfl, rfl, trivial⟩ ?_
              rw [show hr τ z (pT τ z p).2 = 43 from g9]
              refine y_mono (ih (n + 1) _ _ _ _ ((pT τ z p).2 + 1) 43 0 (acc ++ [(pT τ z p).1 + s]) (by omega) (by omega) (by simp; omega) (by decide) (fun q => absurd q (by omega)) (by omega) (by simp; omega) hsm ?_ ?_ ?_) (by omega)
              · rw [List.map_append, ← List.append_assoc, mkS_app]
                exact (by rw [hmk, show List.map encM1 [(pT τ z p).1 + s] = [4000 + (mcd (pT τ z p).1)] by simp only [List.map_cons, List.map_nil]; rw [he1, if_neg (by omega)]]; exact (MP_f (p' := ((pT τ z p).2 + 1)) (wr' := 0) (o' := o) (ln' := ln) h10 ⟨rfl, rfl, rfl, rfl, rfl, rfl⟩ rfl h10.2.2.2.1 h10.2.2.2.2.1 h10.2.2.2.2.2.1))
              · intro l2 q2 V' a1 a2 a3 a4
                exact k1 l2 q2 V' (by rw [show 4 - n = (4 - (n + 1)) + 1 by omega]; unfold pM; rw [if_neg (by omega), if_pos ⟨by omega, by omega⟩, if_neg (by omega)]; exact a1) a2 (MF_tr (MF_u0 (by decide) (MF_tr (MF_tr (MF_tr (MF_rf a V) f1) f9) f10)) a3) (a4.trans (e10.trans (e9.trans (e1.trans rfl))))
              · intro q2 V' st' g' a1 a2 a3 a4
                exact k2 q2 V' st' g' (by rw [show 4 - n = (4 - (n + 1)) + 1 by omega]; unfold pM; rw [if_neg (by omega), if_pos ⟨by omega, by omega⟩, if_neg (by omega)]; exact a1) a2 (MF_tr (MF_u0 (by decide) (MF_tr (MF_tr (MF_tr (MF_rf a V) f1) f9) f10)) a3) (a4.trans (e10.trans (e9.trans (e1.trans rfl))))
            · refine y_ld (x := iv (hr τ z ((pT τ z p).2))) rfl rfl (fun d => rfl) ?_
              refine y_bi rfl rfl (by decide) ?_
              refine y_jne rfl rfl rfl (by omega) (fun g11 => ?_) (fun g11 => ?_)
              · refine y_ic rfl rfl ?_
                refine y_st (lv' := [(3, iv 0), (4, iv (hr τ z ((pT τ z p).2))), (2, iv ((n + 1 : Nat) : Int)), (5, iv (mcd (pT τ z p).1)), (0, .ref 170), (1, iv (mcd cell))]) rfl rfl (fun d => rfl) ?_
                refine y_ld (x := .ref 170) rfl rfl (fun d => rfl) ?_
                refine y_in rfl rfl (fun d => rfl) ?_
                refine y_gI (i := 10) (e := ((pT τ z p).2 : Int)) rfl rfl rfl (md170 hM) rfl h10.2.1 ?_
                refine y_ld (x := iv 0) rfl rfl (fun d => rfl) ?_
                refine y_zeq rfl rfl rfl (by decide) (fun g12 => ?_) (fun g12 => absurd g12 (by decide))
                refine y_ic rfl rfl ?_
                refine y_add (z := (((pT τ z p).2 : Int) + 0)) rfl rfl rfl ?_
                refine y_pI (i := 10) rfl rfl rfl (md170 hM) rfl rfl ?_
                refine y_go rfl rfl ?_
                refine y_lv (l' := [(0, .ref 170), (1, iv (mcd cell)), (2, iv ((n + 1 : Nat) : Int)), (3, iv 0), (4, iv (hr τ z ((pT τ z p).2)))]) rfl ⟨rfl, rfl, rfl, rfl, rfl, trivial⟩ ?_
                refine y_ld (x := iv 0) rfl rfl (fun d => rfl) ?_
                refine y_zeq rfl rfl rfl (by decide) (fun g13 => ?_) (fun g13 => absurd g13 (by decide))
                refine y_ret rfl (fun d => rfl) ?_
                refine k1 (acc ++ [(pT τ z p).1 + s]) _ _ (by rw [show 4 - n = (4 - (n + 1)) + 1 by omega]; unfold pM; rw [if_neg (by omega), if_neg (by omega)]) ?_ (MF_u0 (by decide) (MF_tr (MF_tr (MF_tr (MF_rf a V) f1) f9) f10)) (e10.trans (e9.trans (e1.trans rfl)))
                rw [List.map_append, ← List.append_assoc, mkS_app]
                exact (by rw [hmk, show List.map encM1 [(pT τ z p).1 + s] = [4000 + (mcd (pT τ z p).1)] by simp only [List.map_cons, List.map_nil]; rw [he1, if_neg (by omega)]]; exact (MP_f (p' := (pT τ z p).2) (wr' := 0) (o' := o) (ln' := ln) h10 ⟨rfl, rfl, rfl, rfl, rfl, rfl⟩ rfl h10.2.2.2.1 h10.2.2.2.2.1 h10.2.2.2.2.2.1))
              · refine y_ic rfl rfl ?_
                refine y_go rfl rfl ?_
                refine y_st (lv' := [(3, iv 1), (4, iv (hr τ z ((pT τ z p).2))), (2, iv ((n + 1 : Nat) : Int)), (5, iv (mcd (pT τ z p).1)), (0, .ref 170), (1, iv (mcd cell))]) rfl rfl (fun d => rfl) ?_
                refine y_ld (x := .ref 170) rfl rfl (fun d => rfl) ?_
                refine y_in rfl rfl (fun d => rfl) ?_
                refine y_gI (i := 10) (e := ((pT τ z p).2 : Int)) rfl rfl rfl (md170 hM) rfl h10.2.1 ?_
                refine y_ld (x := iv 1) rfl rfl (fun d => rfl) ?_
                refine y_zeq rfl rfl rfl (by decide) (fun g14 => absurd g14 (by decide)) (fun g14 => ?_)
                refine y_ic rfl rfl ?_
                refine y_go rfl rfl ?_
                refine y_add (z := (((pT τ z p).2 : Int) + 1)) rfl rfl rfl ?_
                refine y_pI (i := 10) rfl rfl rfl (md170 hM) rfl rfl ?_
                have pl7 := hr_le (τ := τ) (z := z) (p := (pT τ z p).2) (by omega)
                refine y_go rfl rfl ?_
                refine y_lv (l' := [(0, .ref 170), (1, iv (mcd cell)), (2, iv ((n + 1 : Nat) : Int)), (3, iv 1), (4, iv (hr τ z ((pT τ z p).2)))]) rfl ⟨rfl, rfl, rfl, rfl, rfl, trivial⟩ ?_
                rw [show hr τ z (pT τ z p).2 = 45 from (by omega)]
                refine y_mono (ih (n + 1) _ _ _ _ ((pT τ z p).2 + 1) 45 256 (acc ++ [(pT τ z p).1 + s]) (by omega) (by omega) (by simp; omega) (by decide) (fun q => absurd q (by omega)) (by omega) (by simp; omega) hsm ?_ ?_ ?_) (by omega)
                · rw [List.map_append, ← List.append_assoc, mkS_app]
                  exact (by rw [hmk, show List.map encM1 [(pT τ z p).1 + s] = [4000 + (mcd (pT τ z p).1)] by simp only [List.map_cons, List.map_nil]; rw [he1, if_neg (by omega)]]; exact (MP_f (p' := ((pT τ z p).2 + 1)) (wr' := 0) (o' := o) (ln' := ln) h10 ⟨rfl, rfl, rfl, rfl, rfl, rfl⟩ rfl h10.2.2.2.1 h10.2.2.2.2.1 h10.2.2.2.2.2.1))
                · intro l2 q2 V' a1 a2 a3 a4
                  exact k1 l2 q2 V' (by rw [show 4 - n = (4 - (n + 1)) + 1 by omega]; unfold pM; rw [if_neg (by omega), if_pos ⟨by omega, by omega⟩, if_pos (by omega)]; exact a1) a2 (MF_tr (MF_u0 (by decide) (MF_tr (MF_tr (MF_tr (MF_rf a V) f1) f9) f10)) a3) (a4.trans (e10.trans (e9.trans (e1.trans rfl))))
                · intro q2 V' st' g' a1 a2 a3 a4
                  exact k2 q2 V' st' g' (by rw [show 4 - n = (4 - (n + 1)) + 1 by omega]; unfold pM; rw [if_neg (by omega), if_pos ⟨by omega, by omega⟩, if_pos (by omega)]; exact a1) a2 (MF_tr (MF_u0 (by decide) (MF_tr (MF_tr (MF_tr (MF_rf a V) f1) f9) f10)) a3) (a4.trans (e10.trans (e9.trans (e1.trans rfl))))
        · refine y_si rfl rfl (by decide) ?_
          refine y_go rfl rfl ?_
          refine y_ld (x := iv (mcd (pT τ z p).1)) rfl rfl (fun d => rfl) ?_
          refine y_add (z := (3000 + (mcd (pT τ z p).1))) rfl rfl rfl ?_
          have hr1 := raw_t (s := s) (pT_cd τ z p q2) (by omega)
          have he1 := encM1_t (s := s) (pT_cd τ z p q2) (by omega)
          have hsm : smO (acc ++ [(pT τ z p).1 + s]) := smO_app hsa (by rw [hr1]; exact (pT_cd τ z p q2))
          have hmk : mkS1 ln cell (true && acc.isEmpty) (mkS ln cell true g0 acc) ((pT τ z p).1 + s) = mk ln (mkS ln cell true g0 acc) (pT τ z p).1 true := by
            rw [acc_cons hal (by omega)]; unfold mkS1; rw [if_neg (by decide), hr1]
          refine y_cV (as := [.ref 170, iv (3000 + (mcd (pT τ z p).1))]) rfl rfl rfl rfl rfl (md170 hM) ⟨rfl, (Nat.le_of_ble_eq_true rfl), (Nat.le_of_ble_eq_true rfl)⟩ (by omega) (ct_emits hM h9 hT.1 (by simp [encT_len]; omega) (fun V11 h11 f11 e11 => ?_))
          refine y_n0 ?_
          refine y_inc (z := ((n + 1 : Nat) : Int)) (lv' := [(2, iv ((n + 1 : Nat) : Int)), (5, iv (mcd (pT τ z p).1)), (0, .ref 170), (1, iv (mcd cell)), (3, iv 1), (4, iv sg)]) rfl rfl rfl (by omega) rfl ?_
          refine y_ld (x := .ref 170) rfl rfl (fun d => rfl) ?_
          refine y_cV (as := [.ref 170]) rfl rfl rfl rfl rfl (md170 hM) ⟨rfl, (Nat.le_of_ble_eq_true rfl), (Nat.le_of_ble_eq_true rfl)⟩ (by omega) (ct_here hM h11 (by omega) ?_)
          have hq82 := hr_rg hT ((pT τ z p).2)
          refine y_nv ?_
          refine y_st (lv' := [(4, iv (hr τ z ((pT τ z p).2))), (2, iv ((n + 1 : Nat) : Int)), (5, iv (mcd (pT τ z p).1)), (0, .ref 170), (1, iv (mcd cell)), (3, iv 1)]) rfl rfl (fun d => rfl) ?_
          refine y_ld (x := .ref 170) rfl rfl (fun d => rfl) ?_
          refine y_gI (i := 12) (e := 0) rfl rfl rfl (md170 hM) rfl h11.2.2.2.1 ?_
          refine y_zne rfl rfl rfl (by decide) (fun g15 => absurd g15 (by decide)) (fun g15 => ?_)
          refine y_ld (x := iv ((n + 1 : Nat) : Int)) rfl rfl (fun d => rfl) ?_
          refine y_ic rfl rfl ?_
          refine y_jge rfl rfl rfl (by omega) (fun g16 => ?_) (fun g16 => ?_)
          · refine y_ic rfl rfl ?_
            refine y_st (lv' := [(3, iv 0), (4, iv (hr τ z ((pT τ z p).2))), (2, iv ((n + 1 : Nat) : Int)), (5, iv (mcd (pT τ z p).1)), (0, .ref 170), (1, iv (mcd cell))]) rfl rfl (fun d => rfl) ?_
            refine y_ld (x := .ref 170) rfl rfl (fun d => rfl) ?_
            refine y_in rfl rfl (fun d => rfl) ?_
            refine y_gI (i := 10) (e := ((pT τ z p).2 : Int)) rfl rfl rfl (md170 hM) rfl h11.2.1 ?_
            refine y_ld (x := iv 0) rfl rfl (fun d => rfl) ?_
            refine y_zeq rfl rfl rfl (by decide) (fun g17 => ?_) (fun g17 => absurd g17 (by decide))
            refine y_ic rfl rfl ?_
            refine y_add (z := (((pT τ z p).2 : Int) + 0)) rfl rfl rfl ?_
            refine y_pI (i := 10) rfl rfl rfl (md170 hM) rfl rfl ?_
            refine y_go rfl rfl ?_
            refine y_lv (l' := [(0, .ref 170), (1, iv (mcd cell)), (2, iv ((n + 1 : Nat) : Int)), (3, iv 0), (4, iv (hr τ z ((pT τ z p).2)))]) rfl ⟨rfl, rfl, rfl, rfl, rfl, trivial⟩ ?_
            refine y_ld (x := iv 0) rfl rfl (fun d => rfl) ?_
            refine y_zeq rfl rfl rfl (by decide) (fun g18 => ?_) (fun g18 => absurd g18 (by decide))
            refine y_ret rfl (fun d => rfl) ?_
            refine k1 (acc ++ [(pT τ z p).1 + s]) _ _ (by rw [show 4 - n = (4 - (n + 1)) + 1 by omega]; unfold pM; rw [if_neg (by omega), if_neg (by omega)]) ?_ (MF_u0 (by decide) (MF_tr (MF_tr (MF_tr (MF_rf a V) f1) f9) f11)) (e11.trans (e9.trans (e1.trans rfl)))
            rw [List.map_append, ← List.append_assoc, mkS_app]
            exact (by rw [hmk, show List.map encM1 [(pT τ z p).1 + s] = [3000 + (mcd (pT τ z p).1)] by simp only [List.map_cons, List.map_nil]; rw [he1, if_pos (by omega)]]; exact (MP_f (p' := (pT τ z p).2) (wr' := 0) (o' := o) (ln' := ln) h11 ⟨rfl, rfl, rfl, rfl, rfl, rfl⟩ rfl h11.2.2.2.1 h11.2.2.2.2.1 h11.2.2.2.2.2.1))
          · refine y_ld (x := iv (hr τ z ((pT τ z p).2))) rfl rfl (fun d => rfl) ?_
            refine y_bi rfl rfl (by decide) ?_
            refine y_jeq rfl rfl rfl (by omega) (fun g19 => ?_) (fun g19 => ?_)
            · refine y_ic rfl rfl ?_
              refine y_go rfl rfl ?_
              refine y_st (lv' := [(3, iv 1), (4, iv (hr τ z ((pT τ z p).2))), (2, iv ((n + 1 : Nat) : Int)), (5, iv (mcd (pT τ z p).1)), (0, .ref 170), (1, iv (mcd cell))]) rfl rfl (fun d => rfl) ?_
              refine y_ld (x := .ref 170) rfl rfl (fun d => rfl) ?_
              refine y_in rfl rfl (fun d => rfl) ?_
              refine y_gI (i := 10) (e := ((pT τ z p).2 : Int)) rfl rfl rfl (md170 hM) rfl h11.2.1 ?_
              refine y_ld (x := iv 1) rfl rfl (fun d => rfl) ?_
              refine y_zeq rfl rfl rfl (by decide) (fun g20 => absurd g20 (by decide)) (fun g20 => ?_)
              refine y_ic rfl rfl ?_
              refine y_go rfl rfl ?_
              refine y_add (z := (((pT τ z p).2 : Int) + 1)) rfl rfl rfl ?_
              refine y_pI (i := 10) rfl rfl rfl (md170 hM) rfl rfl ?_
              have pl7 := hr_le (τ := τ) (z := z) (p := (pT τ z p).2) (by omega)
              refine y_go rfl rfl ?_
              refine y_lv (l' := [(0, .ref 170), (1, iv (mcd cell)), (2, iv ((n + 1 : Nat) : Int)), (3, iv 1), (4, iv (hr τ z ((pT τ z p).2)))]) rfl ⟨rfl, rfl, rfl, rfl, rfl, trivial⟩ ?_
              rw [show hr τ z (pT τ z p).2 = 43 from g19]
              refine y_mono (ih (n + 1) _ _ _ _ ((pT τ z p).2 + 1) 43 0 (acc ++ [(pT τ z p).1 + s]) (by omega) (by omega) (by simp; omega) (by decide) (fun q => absurd q (by omega)) (by omega) (by simp; omega) hsm ?_ ?_ ?_) (by omega)
              · rw [List.map_append, ← List.append_assoc, mkS_app]
                exact (by rw [hmk, show List.map encM1 [(pT τ z p).1 + s] = [3000 + (mcd (pT τ z p).1)] by simp only [List.map_cons, List.map_nil]; rw [he1, if_pos (by omega)]]; exact (MP_f (p' := ((pT τ z p).2 + 1)) (wr' := 0) (o' := o) (ln' := ln) h11 ⟨rfl, rfl, rfl, rfl, rfl, rfl⟩ rfl h11.2.2.2.1 h11.2.2.2.2.1 h11.2.2.2.2.2.1))
              · intro l2 q2 V' a1 a2 a3 a4
                exact k1 l2 q2 V' (by rw [show 4 - n = (4 - (n + 1)) + 1 by omega]; unfold pM; rw [if_neg (by omega), if_pos ⟨by omega, by omega⟩, if_neg (by omega)]; exact a1) a2 (MF_tr (MF_u0 (by decide) (MF_tr (MF_tr (MF_tr (MF_rf a V) f1) f9) f11)) a3) (a4.trans (e11.trans (e9.trans (e1.trans rfl))))
              · intro q2 V' st' g' a1 a2 a3 a4
                exact k2 q2 V' st' g' (by rw [show 4 - n = (4 - (n + 1)) + 1 by omega]; unfold pM; rw [if_neg (by omega), if_pos ⟨by omega, by omega⟩, if_neg (by omega)]; exact a1) a2 (MF_tr (MF_u0 (by decide) (MF_tr (MF_tr (MF_tr (MF_rf a V) f1) f9) f11)) a3) (a4.trans (e11.trans (e9.trans (e1.trans rfl))))
            · refine y_ld (x := iv (hr τ z ((pT τ z p).2))) rfl rfl (fun d => rfl) ?_
              refine y_bi rfl rfl (by decide) ?_
              refine y_jne rfl rfl rfl (by omega) (fun g21 => ?_) (fun g21 => ?_)
              · refine y_ic rfl rfl ?_
                refine y_st (lv' := [(3, iv 0), (4, iv (hr τ z ((pT τ z p).2))), (2, iv ((n + 1 : Nat) : Int)), (5, iv (mcd (pT τ z p).1)), (0, .ref 170), (1, iv (mcd cell))]) rfl rfl (fun d => rfl) ?_
                refine y_ld (x := .ref 170) rfl rfl (fun d => rfl) ?_
                refine y_in rfl rfl (fun d => rfl) ?_
                refine y_gI (i := 10) (e := ((pT τ z p).2 : Int)) rfl rfl rfl (md170 hM) rfl h11.2.1 ?_
                refine y_ld (x := iv 0) rfl rfl (fun d => rfl) ?_
                refine y_zeq rfl rfl rfl (by decide) (fun g22 => ?_) (fun g22 => absurd g22 (by decide))
                refine y_ic rfl rfl ?_
                refine y_add (z := (((pT τ z p).2 : Int) + 0)) rfl rfl rfl ?_
                refine y_pI (i := 10) rfl rfl rfl (md170 hM) rfl rfl ?_
                refine y_go rfl rfl ?_
                refine y_lv (l' := [(0, .ref 170), (1, iv (mcd cell)), (2, iv ((n + 1 : Nat) : Int)), (3, iv 0), (4, iv (hr τ z ((pT τ z p).2)))]) rfl ⟨rfl, rfl, rfl, rfl, rfl, trivial⟩ ?_
                refine y_ld (x := iv 0) rfl rfl (fun d => rfl) ?_
                refine y_zeq rfl rfl rfl (by decide) (fun g23 => ?_) (fun g23 => absurd g23 (by decide))
                refine y_ret rfl (fun d => rfl) ?_
                refine k1 (acc ++ [(pT τ z p).1 + s]) _ _ (by rw [show 4 - n = (4 - (n + 1)) + 1 by omega]; unfold pM; rw [if_neg (by omega), if_neg (by omega)]) ?_ (MF_u0 (by decide) (MF_tr (MF_tr (MF_tr (MF_rf a V) f1) f9) f11)) (e11.trans (e9.trans (e1.trans rfl)))
                rw [List.map_append, ← List.append_assoc, mkS_app]
                exact (by rw [hmk, show List.map encM1 [(pT τ z p).1 + s] = [3000 + (mcd (pT τ z p).1)] by simp only [List.map_cons, List.map_nil]; rw [he1, if_pos (by omega)]]; exact (MP_f (p' := (pT τ z p).2) (wr' := 0) (o' := o) (ln' := ln) h11 ⟨rfl, rfl, rfl, rfl, rfl, rfl⟩ rfl h11.2.2.2.1 h11.2.2.2.2.1 h11.2.2.2.2.2.1))
              · refine y_ic rfl rfl ?_
                refine y_go rfl rfl ?_
                refine y_st (lv' := [(3, iv 1), (4, iv (hr τ z ((pT τ z p).2))), (2, iv ((n + 1 : Nat) : Int)), (5, iv (mcd (pT τ z p).1)), (0, .ref 170), (1, iv (mcd cell))]) rfl rfl (fun d => rfl) ?_
                refine y_ld (x := .ref 170) rfl rfl (fun d => rfl) ?_
                refine y_in rfl rfl (fun d => rfl) ?_
                refine y_gI (i := 10) (e := ((pT τ z p).2 : Int)) rfl rfl rfl (md170 hM) rfl h11.2.1 ?_
                refine y_ld (x := iv 1) rfl rfl (fun d => rfl) ?_
                refine y_zeq rfl rfl rfl (by decide) (fun g24 => absurd g24 (by decide)) (fun g24 => ?_)
                refine y_ic rfl rfl ?_
                refine y_go rfl rfl ?_
                refine y_add (z := (((pT τ z p).2 : Int) + 1)) rfl rfl rfl ?_
                refine y_pI (i := 10) rfl rfl rfl (md170 hM) rfl rfl ?_
                have pl7 := hr_le (τ := τ) (z := z) (p := (pT τ z p).2) (by omega)
                refine y_go rfl rfl ?_
                refine y_lv (l' := [(0, .ref 170), (1, iv (mcd cell)), (2, iv ((n + 1 : Nat) : Int)), (3, iv 1), (4, iv (hr τ z ((pT τ z p).2)))]) rfl ⟨rfl, rfl, rfl, rfl, rfl, trivial⟩ ?_
                rw [show hr τ z (pT τ z p).2 = 45 from (by omega)]
                refine y_mono (ih (n + 1) _ _ _ _ ((pT τ z p).2 + 1) 45 256 (acc ++ [(pT τ z p).1 + s]) (by omega) (by omega) (by simp; omega) (by decide) (fun q => absurd q (by omega)) (by omega) (by simp; omega) hsm ?_ ?_ ?_) (by omega)
                · rw [List.map_append, ← List.append_assoc, mkS_app]
                  exact (by rw [hmk, show List.map encM1 [(pT τ z p).1 + s] = [3000 + (mcd (pT τ z p).1)] by simp only [List.map_cons, List.map_nil]; rw [he1, if_pos (by omega)]]; exact (MP_f (p' := ((pT τ z p).2 + 1)) (wr' := 0) (o' := o) (ln' := ln) h11 ⟨rfl, rfl, rfl, rfl, rfl, rfl⟩ rfl h11.2.2.2.1 h11.2.2.2.2.1 h11.2.2.2.2.2.1))
                · intro l2 q2 V' a1 a2 a3 a4
                  exact k1 l2 q2 V' (by rw [show 4 - n = (4 - (n + 1)) + 1 by omega]; unfold pM; rw [if_neg (by omega), if_pos ⟨by omega, by omega⟩, if_pos (by omega)]; exact a1) a2 (MF_tr (MF_u0 (by decide) (MF_tr (MF_tr (MF_tr (MF_rf a V) f1) f9) f11)) a3) (a4.trans (e11.trans (e9.trans (e1.trans rfl))))
                · intro q2 V' st' g' a1 a2 a3 a4
                  exact k2 q2 V' st' g' (by rw [show 4 - n = (4 - (n + 1)) + 1 by omega]; unfold pM; rw [if_neg (by omega), if_pos ⟨by omega, by omega⟩, if_pos (by omega)]; exact a1) a2 (MF_tr (MF_u0 (by decide) (MF_tr (MF_tr (MF_tr (MF_rf a V) f1) f9) f11)) a3) (a4.trans (e11.trans (e9.trans (e1.trans rfl))))
      · refine y_ld (x := .ref 170) rfl rfl (fun d => rfl) ?_
        refine y_ld (x := iv (mcd cell)) rfl rfl (fun d => rfl) ?_
        refine y_ld (x := iv (mcd (pT τ z p).1)) rfl rfl (fun d => rfl) ?_
        refine y_ld (x := iv (mcd cell)) rfl rfl (fun d => rfl) ?_
        refine y_jeq rfl rfl rfl (by omega) (fun g25 => ?_) (fun g25 => ?_)
        · refine y_ic rfl rfl ?_
          refine y_cV (as := [.ref 170, iv (mcd cell), iv 0]) rfl rfl rfl rfl rfl (md170 hM) ⟨rfl, (Nat.le_of_ble_eq_true rfl), (Nat.le_of_ble_eq_true rfl)⟩ (by omega) (ct_marks (b := false) hM hcell h1 hT.1 hln (mkS_bd hln (tcd_le hcell) acc true g0 hsa hg0) (fun V12 h12 f12 e12 => ?_))
          refine y_n0 ?_
          refine y_ld (x := iv (n : Int)) rfl rfl (fun d => rfl) ?_
          refine y_zgt rfl rfl rfl (by omega) (fun g26 => absurd g26 (by omega)) (fun g26 => ?_)
          refine y_ld (x := iv (mcd (pT τ z p).1)) rfl rfl (fun d => rfl) ?_
          refine y_ld (x := iv (mcd cell)) rfl rfl (fun d => rfl) ?_
          refine y_jeq rfl rfl rfl (by omega) (fun g27 => ?_) (fun g27 => absurd g27 (by omega))
          refine y_ld (x := .ref 170) rfl rfl (fun d => rfl) ?_
          refine y_ld (x := iv sg) rfl rfl (fun d => rfl) ?_
          refine y_bi rfl rfl (by decide) ?_
          refine y_jne rfl rfl rfl (by omega) (fun g28 => ?_) (fun g28 => ?_)
          · refine y_si rfl rfl (by decide) ?_
            refine y_ld (x := iv (mcd (pT τ z p).1)) rfl rfl (fun d => rfl) ?_
            refine y_add (z := (4000 + (mcd (pT τ z p).1))) rfl rfl rfl ?_
            have hr1 := raw_t (s := s) (pT_cd τ z p q2) (by omega)
            have he1 := encM1_t (s := s) (pT_cd τ z p q2) (by omega)
            have hsm : smO (acc ++ [(pT τ z p).1 + s]) := smO_app hsa (by rw [hr1]; exact (pT_cd τ z p q2))
            have hcc := mcd_inj (pT_cd τ z p q2) hcell g25
            have hmk : mkS1 ln cell (true && acc.isEmpty) (mkS ln cell true g0 acc) ((pT τ z p).1 + s) = mk ln (mkS ln cell true g0 acc) cell false := by
              rw [acc_nil hal (by omega)]; unfold mkS1; rw [if_pos rfl, if_pos (by omega)]
            refine y_cV (as := [.ref 170, iv (4000 + (mcd (pT τ z p).1))]) rfl rfl rfl rfl rfl (md170 hM) ⟨rfl, (Nat.le_of_ble_eq_true rfl), (Nat.le_of_ble_eq_true rfl)⟩ (by omega) (ct_emits hM h12 hT.1 (by simp [encT_len]; omega) (fun V13 h13 f13 e13 => ?_))
            refine y_n0 ?_
            refine y_inc (z := ((n + 1 : Nat) : Int)) (lv' := [(2, iv ((n + 1 : Nat) : Int)), (5, iv (mcd (pT τ z p).1)), (0, .ref 170), (1, iv (mcd cell)), (3, iv 1), (4, iv sg)]) rfl rfl rfl (by omega) rfl ?_
            refine y_ld (x := .ref 170) rfl rfl (fun d => rfl) ?_
            refine y_cV (as := [.ref 170]) rfl rfl rfl rfl rfl (md170 hM) ⟨rfl, (Nat.le_of_ble_eq_true rfl), (Nat.le_of_ble_eq_true rfl)⟩ (by omega) (ct_here hM h13 (by omega) ?_)
            have hq82 := hr_rg hT ((pT τ z p).2)
            refine y_nv ?_
            refine y_st (lv' := [(4, iv (hr τ z ((pT τ z p).2))), (2, iv ((n + 1 : Nat) : Int)), (5, iv (mcd (pT τ z p).1)), (0, .ref 170), (1, iv (mcd cell)), (3, iv 1)]) rfl rfl (fun d => rfl) ?_
            refine y_ld (x := .ref 170) rfl rfl (fun d => rfl) ?_
            refine y_gI (i := 12) (e := 0) rfl rfl rfl (md170 hM) rfl h13.2.2.2.1 ?_
            refine y_zne rfl rfl rfl (by decide) (fun g29 => absurd g29 (by decide)) (fun g29 => ?_)
            refine y_ld (x := iv ((n + 1 : Nat) : Int)) rfl rfl (fun d => rfl) ?_
            refine y_ic rfl rfl ?_
            refine y_jge rfl rfl rfl (by omega) (fun g30 => ?_) (fun g30 => ?_)
            · refine y_ic rfl rfl ?_
              refine y_st (lv' := [(3, iv 0), (4, iv (hr τ z ((pT τ z p).2))), (2, iv ((n + 1 : Nat) : Int)), (5, iv (mcd (pT τ z p).1)), (0, .ref 170), (1, iv (mcd cell))]) rfl rfl (fun d => rfl) ?_
              refine y_ld (x := .ref 170) rfl rfl (fun d => rfl) ?_
              refine y_in rfl rfl (fun d => rfl) ?_
              refine y_gI (i := 10) (e := ((pT τ z p).2 : Int)) rfl rfl rfl (md170 hM) rfl h13.2.1 ?_
              refine y_ld (x := iv 0) rfl rfl (fun d => rfl) ?_
              refine y_zeq rfl rfl rfl (by decide) (fun g31 => ?_) (fun g31 => absurd g31 (by decide))
              refine y_ic rfl rfl ?_
              refine y_add (z := (((pT τ z p).2 : Int) + 0)) rfl rfl rfl ?_
              refine y_pI (i := 10) rfl rfl rfl (md170 hM) rfl rfl ?_
              refine y_go rfl rfl ?_
              refine y_lv (l' := [(0, .ref 170), (1, iv (mcd cell)), (2, iv ((n + 1 : Nat) : Int)), (3, iv 0), (4, iv (hr τ z ((pT τ z p).2)))]) rfl ⟨rfl, rfl, rfl, rfl, rfl, trivial⟩ ?_
              refine y_ld (x := iv 0) rfl rfl (fun d => rfl) ?_
              refine y_zeq rfl rfl rfl (by decide) (fun g32 => ?_) (fun g32 => absurd g32 (by decide))
              refine y_ret rfl (fun d => rfl) ?_
              refine k1 (acc ++ [(pT τ z p).1 + s]) _ _ (by rw [show 4 - n = (4 - (n + 1)) + 1 by omega]; unfold pM; rw [if_neg (by omega), if_neg (by omega)]) ?_ (MF_u0 (by decide) (MF_tr (MF_tr (MF_tr (MF_rf a V) f1) f12) f13)) (e13.trans (e12.trans (e1.trans rfl)))
              rw [List.map_append, ← List.append_assoc, mkS_app]
              exact (by rw [hmk, show List.map encM1 [(pT τ z p).1 + s] = [4000 + (mcd (pT τ z p).1)] by simp only [List.map_cons, List.map_nil]; rw [he1, if_neg (by omega)]]; exact (MP_f (p' := (pT τ z p).2) (wr' := 0) (o' := o) (ln' := ln) h13 ⟨rfl, rfl, rfl, rfl, rfl, rfl⟩ rfl h13.2.2.2.1 h13.2.2.2.2.1 h13.2.2.2.2.2.1))
            · refine y_ld (x := iv (hr τ z ((pT τ z p).2))) rfl rfl (fun d => rfl) ?_
              refine y_bi rfl rfl (by decide) ?_
              refine y_jeq rfl rfl rfl (by omega) (fun g33 => ?_) (fun g33 => ?_)
              · refine y_ic rfl rfl ?_
                refine y_go rfl rfl ?_
                refine y_st (lv' := [(3, iv 1), (4, iv (hr τ z ((pT τ z p).2))), (2, iv ((n + 1 : Nat) : Int)), (5, iv (mcd (pT τ z p).1)), (0, .ref 170), (1, iv (mcd cell))]) rfl rfl (fun d => rfl) ?_
                refine y_ld (x := .ref 170) rfl rfl (fun d => rfl) ?_
                refine y_in rfl rfl (fun d => rfl) ?_
                refine y_gI (i := 10) (e := ((pT τ z p).2 : Int)) rfl rfl rfl (md170 hM) rfl h13.2.1 ?_
                refine y_ld (x := iv 1) rfl rfl (fun d => rfl) ?_
                refine y_zeq rfl rfl rfl (by decide) (fun g34 => absurd g34 (by decide)) (fun g34 => ?_)
                refine y_ic rfl rfl ?_
                refine y_go rfl rfl ?_
                refine y_add (z := (((pT τ z p).2 : Int) + 1)) rfl rfl rfl ?_
                refine y_pI (i := 10) rfl rfl rfl (md170 hM) rfl rfl ?_
                have pl7 := hr_le (τ := τ) (z := z) (p := (pT τ z p).2) (by omega)
                refine y_go rfl rfl ?_
                refine y_lv (l' := [(0, .ref 170), (1, iv (mcd cell)), (2, iv ((n + 1 : Nat) : Int)), (3, iv 1), (4, iv (hr τ z ((pT τ z p).2)))]) rfl ⟨rfl, rfl, rfl, rfl, rfl, trivial⟩ ?_
                rw [show hr τ z (pT τ z p).2 = 43 from g33]
                refine y_mono (ih (n + 1) _ _ _ _ ((pT τ z p).2 + 1) 43 0 (acc ++ [(pT τ z p).1 + s]) (by omega) (by omega) (by simp; omega) (by decide) (fun q => absurd q (by omega)) (by omega) (by simp; omega) hsm ?_ ?_ ?_) (by omega)
                · rw [List.map_append, ← List.append_assoc, mkS_app]
                  exact (by rw [hmk, show List.map encM1 [(pT τ z p).1 + s] = [4000 + (mcd (pT τ z p).1)] by simp only [List.map_cons, List.map_nil]; rw [he1, if_neg (by omega)]]; exact (MP_f (p' := ((pT τ z p).2 + 1)) (wr' := 0) (o' := o) (ln' := ln) h13 ⟨rfl, rfl, rfl, rfl, rfl, rfl⟩ rfl h13.2.2.2.1 h13.2.2.2.2.1 h13.2.2.2.2.2.1))
                · intro l2 q2 V' a1 a2 a3 a4
                  exact k1 l2 q2 V' (by rw [show 4 - n = (4 - (n + 1)) + 1 by omega]; unfold pM; rw [if_neg (by omega), if_pos ⟨by omega, by omega⟩, if_neg (by omega)]; exact a1) a2 (MF_tr (MF_u0 (by decide) (MF_tr (MF_tr (MF_tr (MF_rf a V) f1) f12) f13)) a3) (a4.trans (e13.trans (e12.trans (e1.trans rfl))))
                · intro q2 V' st' g' a1 a2 a3 a4
                  exact k2 q2 V' st' g' (by rw [show 4 - n = (4 - (n + 1)) + 1 by omega]; unfold pM; rw [if_neg (by omega), if_pos ⟨by omega, by omega⟩, if_neg (by omega)]; exact a1) a2 (MF_tr (MF_u0 (by decide) (MF_tr (MF_tr (MF_tr (MF_rf a V) f1) f12) f13)) a3) (a4.trans (e13.trans (e12.trans (e1.trans rfl))))
              · refine y_ld (x := iv (hr τ z ((pT τ z p).2))) rfl rfl (fun d => rfl) ?_
                refine y_bi rfl rfl (by decide) ?_
                refine y_jne rfl rfl rfl (by omega) (fun g35 => ?_) (fun g35 => ?_)
                · refine y_ic rfl rfl ?_
                  refine y_st (lv' := [(3, iv 0), (4, iv (hr τ z ((pT τ z p).2))), (2, iv ((n + 1 : Nat) : Int)), (5, iv (mcd (pT τ z p).1)), (0, .ref 170), (1, iv (mcd cell))]) rfl rfl (fun d => rfl) ?_
                  refine y_ld (x := .ref 170) rfl rfl (fun d => rfl) ?_
                  refine y_in rfl rfl (fun d => rfl) ?_
                  refine y_gI (i := 10) (e := ((pT τ z p).2 : Int)) rfl rfl rfl (md170 hM) rfl h13.2.1 ?_
                  refine y_ld (x := iv 0) rfl rfl (fun d => rfl) ?_
                  refine y_zeq rfl rfl rfl (by decide) (fun g36 => ?_) (fun g36 => absurd g36 (by decide))
                  refine y_ic rfl rfl ?_
                  refine y_add (z := (((pT τ z p).2 : Int) + 0)) rfl rfl rfl ?_
                  refine y_pI (i := 10) rfl rfl rfl (md170 hM) rfl rfl ?_
                  refine y_go rfl rfl ?_
                  refine y_lv (l' := [(0, .ref 170), (1, iv (mcd cell)), (2, iv ((n + 1 : Nat) : Int)), (3, iv 0), (4, iv (hr τ z ((pT τ z p).2)))]) rfl ⟨rfl, rfl, rfl, rfl, rfl, trivial⟩ ?_
                  refine y_ld (x := iv 0) rfl rfl (fun d => rfl) ?_
                  refine y_zeq rfl rfl rfl (by decide) (fun g37 => ?_) (fun g37 => absurd g37 (by decide))
                  refine y_ret rfl (fun d => rfl) ?_
                  refine k1 (acc ++ [(pT τ z p).1 + s]) _ _ (by rw [show 4 - n = (4 - (n + 1)) + 1 by omega]; unfold pM; rw [if_neg (by omega), if_neg (by omega)]) ?_ (MF_u0 (by decide) (MF_tr (MF_tr (MF_tr (MF_rf a V) f1) f12) f13)) (e13.trans (e12.trans (e1.trans rfl)))
                  rw [List.map_append, ← List.append_assoc, mkS_app]
                  exact (by rw [hmk, show List.map encM1 [(pT τ z p).1 + s] = [4000 + (mcd (pT τ z p).1)] by simp only [List.map_cons, List.map_nil]; rw [he1, if_neg (by omega)]]; exact (MP_f (p' := (pT τ z p).2) (wr' := 0) (o' := o) (ln' := ln) h13 ⟨rfl, rfl, rfl, rfl, rfl, rfl⟩ rfl h13.2.2.2.1 h13.2.2.2.2.1 h13.2.2.2.2.2.1))
                · refine y_ic rfl rfl ?_
                  refine y_go rfl rfl ?_
                  refine y_st (lv' := [(3, iv 1), (4, iv (hr τ z ((pT τ z p).2))), (2, iv ((n + 1 : Nat) : Int)), (5, iv (mcd (pT τ z p).1)), (0, .ref 170), (1, iv (mcd cell))]) rfl rfl (fun d => rfl) ?_
                  refine y_ld (x := .ref 170) rfl rfl (fun d => rfl) ?_
                  refine y_in rfl rfl (fun d => rfl) ?_
                  refine y_gI (i := 10) (e := ((pT τ z p).2 : Int)) rfl rfl rfl (md170 hM) rfl h13.2.1 ?_
                  refine y_ld (x := iv 1) rfl rfl (fun d => rfl) ?_
                  refine y_zeq rfl rfl rfl (by decide) (fun g38 => absurd g38 (by decide)) (fun g38 => ?_)
                  refine y_ic rfl rfl ?_
                  refine y_go rfl rfl ?_
                  refine y_add (z := (((pT τ z p).2 : Int) + 1)) rfl rfl rfl ?_
                  refine y_pI (i := 10) rfl rfl rfl (md170 hM) rfl rfl ?_
                  have pl7 := hr_le (τ := τ) (z := z) (p := (pT τ z p).2) (by omega)
                  refine y_go rfl rfl ?_
                  refine y_lv (l' := [(0, .ref 170), (1, iv (mcd cell)), (2, iv ((n + 1 : Nat) : Int)), (3, iv 1), (4, iv (hr τ z ((pT τ z p).2)))]) rfl ⟨rfl, rfl, rfl, rfl, rfl, trivial⟩ ?_
                  rw [show hr τ z (pT τ z p).2 = 45 from (by omega)]
                  refine y_mono (ih (n + 1) _ _ _ _ ((pT τ z p).2 + 1) 45 256 (acc ++ [(pT τ z p).1 + s]) (by omega) (by omega) (by simp; omega) (by decide) (fun q => absurd q (by omega)) (by omega) (by simp; omega) hsm ?_ ?_ ?_) (by omega)
                  · rw [List.map_append, ← List.append_assoc, mkS_app]
                    exact (by rw [hmk, show List.map encM1 [(pT τ z p).1 + s] = [4000 + (mcd (pT τ z p).1)] by simp only [List.map_cons, List.map_nil]; rw [he1, if_neg (by omega)]]; exact (MP_f (p' := ((pT τ z p).2 + 1)) (wr' := 0) (o' := o) (ln' := ln) h13 ⟨rfl, rfl, rfl, rfl, rfl, rfl⟩ rfl h13.2.2.2.1 h13.2.2.2.2.1 h13.2.2.2.2.2.1))
                  · intro l2 q2 V' a1 a2 a3 a4
                    exact k1 l2 q2 V' (by rw [show 4 - n = (4 - (n + 1)) + 1 by omega]; unfold pM; rw [if_neg (by omega), if_pos ⟨by omega, by omega⟩, if_pos (by omega)]; exact a1) a2 (MF_tr (MF_u0 (by decide) (MF_tr (MF_tr (MF_tr (MF_rf a V) f1) f12) f13)) a3) (a4.trans (e13.trans (e12.trans (e1.trans rfl))))
                  · intro q2 V' st' g' a1 a2 a3 a4
                    exact k2 q2 V' st' g' (by rw [show 4 - n = (4 - (n + 1)) + 1 by omega]; unfold pM; rw [if_neg (by omega), if_pos ⟨by omega, by omega⟩, if_pos (by omega)]; exact a1) a2 (MF_tr (MF_u0 (by decide) (MF_tr (MF_tr (MF_tr (MF_rf a V) f1) f12) f13)) a3) (a4.trans (e13.trans (e12.trans (e1.trans rfl))))
          · refine y_si rfl rfl (by decide) ?_
            refine y_go rfl rfl ?_
            refine y_ld (x := iv (mcd (pT τ z p).1)) rfl rfl (fun d => rfl) ?_
            refine y_add (z := (3000 + (mcd (pT τ z p).1))) rfl rfl rfl ?_
            have hr1 := raw_t (s := s) (pT_cd τ z p q2) (by omega)
            have he1 := encM1_t (s := s) (pT_cd τ z p q2) (by omega)
            have hsm : smO (acc ++ [(pT τ z p).1 + s]) := smO_app hsa (by rw [hr1]; exact (pT_cd τ z p q2))
            have hcc := mcd_inj (pT_cd τ z p q2) hcell g25
            have hmk : mkS1 ln cell (true && acc.isEmpty) (mkS ln cell true g0 acc) ((pT τ z p).1 + s) = mk ln (mkS ln cell true g0 acc) cell false := by
              rw [acc_nil hal (by omega)]; unfold mkS1; rw [if_pos rfl, if_pos (by omega)]
            refine y_cV (as := [.ref 170, iv (3000 + (mcd (pT τ z p).1))]) rfl rfl rfl rfl rfl (md170 hM) ⟨rfl, (Nat.le_of_ble_eq_true rfl), (Nat.le_of_ble_eq_true rfl)⟩ (by omega) (ct_emits hM h12 hT.1 (by simp [encT_len]; omega) (fun V14 h14 f14 e14 => ?_))
            refine y_n0 ?_
            refine y_inc (z := ((n + 1 : Nat) : Int)) (lv' := [(2, iv ((n + 1 : Nat) : Int)), (5, iv (mcd (pT τ z p).1)), (0, .ref 170), (1, iv (mcd cell)), (3, iv 1), (4, iv sg)]) rfl rfl rfl (by omega) rfl ?_
            refine y_ld (x := .ref 170) rfl rfl (fun d => rfl) ?_
            refine y_cV (as := [.ref 170]) rfl rfl rfl rfl rfl (md170 hM) ⟨rfl, (Nat.le_of_ble_eq_true rfl), (Nat.le_of_ble_eq_true rfl)⟩ (by omega) (ct_here hM h14 (by omega) ?_)
            have hq82 := hr_rg hT ((pT τ z p).2)
            refine y_nv ?_
            refine y_st (lv' := [(4, iv (hr τ z ((pT τ z p).2))), (2, iv ((n + 1 : Nat) : Int)), (5, iv (mcd (pT τ z p).1)), (0, .ref 170), (1, iv (mcd cell)), (3, iv 1)]) rfl rfl (fun d => rfl) ?_
            refine y_ld (x := .ref 170) rfl rfl (fun d => rfl) ?_
            refine y_gI (i := 12) (e := 0) rfl rfl rfl (md170 hM) rfl h14.2.2.2.1 ?_
            refine y_zne rfl rfl rfl (by decide) (fun g39 => absurd g39 (by decide)) (fun g39 => ?_)
            refine y_ld (x := iv ((n + 1 : Nat) : Int)) rfl rfl (fun d => rfl) ?_
            refine y_ic rfl rfl ?_
            refine y_jge rfl rfl rfl (by omega) (fun g40 => ?_) (fun g40 => ?_)
            · refine y_ic rfl rfl ?_
              refine y_st (lv' := [(3, iv 0), (4, iv (hr τ z ((pT τ z p).2))), (2, iv ((n + 1 : Nat) : Int)), (5, iv (mcd (pT τ z p).1)), (0, .ref 170), (1, iv (mcd cell))]) rfl rfl (fun d => rfl) ?_
              refine y_ld (x := .ref 170) rfl rfl (fun d => rfl) ?_
              refine y_in rfl rfl (fun d => rfl) ?_
              refine y_gI (i := 10) (e := ((pT τ z p).2 : Int)) rfl rfl rfl (md170 hM) rfl h14.2.1 ?_
              refine y_ld (x := iv 0) rfl rfl (fun d => rfl) ?_
              refine y_zeq rfl rfl rfl (by decide) (fun g41 => ?_) (fun g41 => absurd g41 (by decide))
              refine y_ic rfl rfl ?_
              refine y_add (z := (((pT τ z p).2 : Int) + 0)) rfl rfl rfl ?_
              refine y_pI (i := 10) rfl rfl rfl (md170 hM) rfl rfl ?_
              refine y_go rfl rfl ?_
              refine y_lv (l' := [(0, .ref 170), (1, iv (mcd cell)), (2, iv ((n + 1 : Nat) : Int)), (3, iv 0), (4, iv (hr τ z ((pT τ z p).2)))]) rfl ⟨rfl, rfl, rfl, rfl, rfl, trivial⟩ ?_
              refine y_ld (x := iv 0) rfl rfl (fun d => rfl) ?_
              refine y_zeq rfl rfl rfl (by decide) (fun g42 => ?_) (fun g42 => absurd g42 (by decide))
              refine y_ret rfl (fun d => rfl) ?_
              refine k1 (acc ++ [(pT τ z p).1 + s]) _ _ (by rw [show 4 - n = (4 - (n + 1)) + 1 by omega]; unfold pM; rw [if_neg (by omega), if_neg (by omega)]) ?_ (MF_u0 (by decide) (MF_tr (MF_tr (MF_tr (MF_rf a V) f1) f12) f14)) (e14.trans (e12.trans (e1.trans rfl)))
              rw [List.map_append, ← List.append_assoc, mkS_app]
              exact (by rw [hmk, show List.map encM1 [(pT τ z p).1 + s] = [3000 + (mcd (pT τ z p).1)] by simp only [List.map_cons, List.map_nil]; rw [he1, if_pos (by omega)]]; exact (MP_f (p' := (pT τ z p).2) (wr' := 0) (o' := o) (ln' := ln) h14 ⟨rfl, rfl, rfl, rfl, rfl, rfl⟩ rfl h14.2.2.2.1 h14.2.2.2.2.1 h14.2.2.2.2.2.1))
            · refine y_ld (x := iv (hr τ z ((pT τ z p).2))) rfl rfl (fun d => rfl) ?_
              refine y_bi rfl rfl (by decide) ?_
              refine y_jeq rfl rfl rfl (by omega) (fun g43 => ?_) (fun g43 => ?_)
              · refine y_ic rfl rfl ?_
                refine y_go rfl rfl ?_
                refine y_st (lv' := [(3, iv 1), (4, iv (hr τ z ((pT τ z p).2))), (2, iv ((n + 1 : Nat) : Int)), (5, iv (mcd (pT τ z p).1)), (0, .ref 170), (1, iv (mcd cell))]) rfl rfl (fun d => rfl) ?_
                refine y_ld (x := .ref 170) rfl rfl (fun d => rfl) ?_
                refine y_in rfl rfl (fun d => rfl) ?_
                refine y_gI (i := 10) (e := ((pT τ z p).2 : Int)) rfl rfl rfl (md170 hM) rfl h14.2.1 ?_
                refine y_ld (x := iv 1) rfl rfl (fun d => rfl) ?_
                refine y_zeq rfl rfl rfl (by decide) (fun g44 => absurd g44 (by decide)) (fun g44 => ?_)
                refine y_ic rfl rfl ?_
                refine y_go rfl rfl ?_
                refine y_add (z := (((pT τ z p).2 : Int) + 1)) rfl rfl rfl ?_
                refine y_pI (i := 10) rfl rfl rfl (md170 hM) rfl rfl ?_
                have pl7 := hr_le (τ := τ) (z := z) (p := (pT τ z p).2) (by omega)
                refine y_go rfl rfl ?_
                refine y_lv (l' := [(0, .ref 170), (1, iv (mcd cell)), (2, iv ((n + 1 : Nat) : Int)), (3, iv 1), (4, iv (hr τ z ((pT τ z p).2)))]) rfl ⟨rfl, rfl, rfl, rfl, rfl, trivial⟩ ?_
                rw [show hr τ z (pT τ z p).2 = 43 from g43]
                refine y_mono (ih (n + 1) _ _ _ _ ((pT τ z p).2 + 1) 43 0 (acc ++ [(pT τ z p).1 + s]) (by omega) (by omega) (by simp; omega) (by decide) (fun q => absurd q (by omega)) (by omega) (by simp; omega) hsm ?_ ?_ ?_) (by omega)
                · rw [List.map_append, ← List.append_assoc, mkS_app]
                  exact (by rw [hmk, show List.map encM1 [(pT τ z p).1 + s] = [3000 + (mcd (pT τ z p).1)] by simp only [List.map_cons, List.map_nil]; rw [he1, if_pos (by omega)]]; exact (MP_f (p' := ((pT τ z p).2 + 1)) (wr' := 0) (o' := o) (ln' := ln) h14 ⟨rfl, rfl, rfl, rfl, rfl, rfl⟩ rfl h14.2.2.2.1 h14.2.2.2.2.1 h14.2.2.2.2.2.1))
                · intro l2 q2 V' a1 a2 a3 a4
                  exact k1 l2 q2 V' (by rw [show 4 - n = (4 - (n + 1)) + 1 by omega]; unfold pM; rw [if_neg (by omega), if_pos ⟨by omega, by omega⟩, if_neg (by omega)]; exact a1) a2 (MF_tr (MF_u0 (by decide) (MF_tr (MF_tr (MF_tr (MF_rf a V) f1) f12) f14)) a3) (a4.trans (e14.trans (e12.trans (e1.trans rfl))))
                · intro q2 V' st' g' a1 a2 a3 a4
                  exact k2 q2 V' st' g' (by rw [show 4 - n = (4 - (n + 1)) + 1 by omega]; unfold pM; rw [if_neg (by omega), if_pos ⟨by omega, by omega⟩, if_neg (by omega)]; exact a1) a2 (MF_tr (MF_u0 (by decide) (MF_tr (MF_tr (MF_tr (MF_rf a V) f1) f12) f14)) a3) (a4.trans (e14.trans (e12.trans (e1.trans rfl))))
              · refine y_ld (x := iv (hr τ z ((pT τ z p).2))) rfl rfl (fun d => rfl) ?_
                refine y_bi rfl rfl (by decide) ?_
                refine y_jne rfl rfl rfl (by omega) (fun g45 => ?_) (fun g45 => ?_)
                · refine y_ic rfl rfl ?_
                  refine y_st (lv' := [(3, iv 0), (4, iv (hr τ z ((pT τ z p).2))), (2, iv ((n + 1 : Nat) : Int)), (5, iv (mcd (pT τ z p).1)), (0, .ref 170), (1, iv (mcd cell))]) rfl rfl (fun d => rfl) ?_
                  refine y_ld (x := .ref 170) rfl rfl (fun d => rfl) ?_
                  refine y_in rfl rfl (fun d => rfl) ?_
                  refine y_gI (i := 10) (e := ((pT τ z p).2 : Int)) rfl rfl rfl (md170 hM) rfl h14.2.1 ?_
                  refine y_ld (x := iv 0) rfl rfl (fun d => rfl) ?_
                  refine y_zeq rfl rfl rfl (by decide) (fun g46 => ?_) (fun g46 => absurd g46 (by decide))
                  refine y_ic rfl rfl ?_
                  refine y_add (z := (((pT τ z p).2 : Int) + 0)) rfl rfl rfl ?_
                  refine y_pI (i := 10) rfl rfl rfl (md170 hM) rfl rfl ?_
                  refine y_go rfl rfl ?_
                  refine y_lv (l' := [(0, .ref 170), (1, iv (mcd cell)), (2, iv ((n + 1 : Nat) : Int)), (3, iv 0), (4, iv (hr τ z ((pT τ z p).2)))]) rfl ⟨rfl, rfl, rfl, rfl, rfl, trivial⟩ ?_
                  refine y_ld (x := iv 0) rfl rfl (fun d => rfl) ?_
                  refine y_zeq rfl rfl rfl (by decide) (fun g47 => ?_) (fun g47 => absurd g47 (by decide))
                  refine y_ret rfl (fun d => rfl) ?_
                  refine k1 (acc ++ [(pT τ z p).1 + s]) _ _ (by rw [show 4 - n = (4 - (n + 1)) + 1 by omega]; unfold pM; rw [if_neg (by omega), if_neg (by omega)]) ?_ (MF_u0 (by decide) (MF_tr (MF_tr (MF_tr (MF_rf a V) f1) f12) f14)) (e14.trans (e12.trans (e1.trans rfl)))
                  rw [List.map_append, ← List.append_assoc, mkS_app]
                  exact (by rw [hmk, show List.map encM1 [(pT τ z p).1 + s] = [3000 + (mcd (pT τ z p).1)] by simp only [List.map_cons, List.map_nil]; rw [he1, if_pos (by omega)]]; exact (MP_f (p' := (pT τ z p).2) (wr' := 0) (o' := o) (ln' := ln) h14 ⟨rfl, rfl, rfl, rfl, rfl, rfl⟩ rfl h14.2.2.2.1 h14.2.2.2.2.1 h14.2.2.2.2.2.1))
                · refine y_ic rfl rfl ?_
                  refine y_go rfl rfl ?_
                  refine y_st (lv' := [(3, iv 1), (4, iv (hr τ z ((pT τ z p).2))), (2, iv ((n + 1 : Nat) : Int)), (5, iv (mcd (pT τ z p).1)), (0, .ref 170), (1, iv (mcd cell))]) rfl rfl (fun d => rfl) ?_
                  refine y_ld (x := .ref 170) rfl rfl (fun d => rfl) ?_
                  refine y_in rfl rfl (fun d => rfl) ?_
                  refine y_gI (i := 10) (e := ((pT τ z p).2 : Int)) rfl rfl rfl (md170 hM) rfl h14.2.1 ?_
                  refine y_ld (x := iv 1) rfl rfl (fun d => rfl) ?_
                  refine y_zeq rfl rfl rfl (by decide) (fun g48 => absurd g48 (by decide)) (fun g48 => ?_)
                  refine y_ic rfl rfl ?_
                  refine y_go rfl rfl ?_
                  refine y_add (z := (((pT τ z p).2 : Int) + 1)) rfl rfl rfl ?_
                  refine y_pI (i := 10) rfl rfl rfl (md170 hM) rfl rfl ?_
                  have pl7 := hr_le (τ := τ) (z := z) (p := (pT τ z p).2) (by omega)
                  refine y_go rfl rfl ?_
                  refine y_lv (l' := [(0, .ref 170), (1, iv (mcd cell)), (2, iv ((n + 1 : Nat) : Int)), (3, iv 1), (4, iv (hr τ z ((pT τ z p).2)))]) rfl ⟨rfl, rfl, rfl, rfl, rfl, trivial⟩ ?_
                  rw [show hr τ z (pT τ z p).2 = 45 from (by omega)]
                  refine y_mono (ih (n + 1) _ _ _ _ ((pT τ z p).2 + 1) 45 256 (acc ++ [(pT τ z p).1 + s]) (by omega) (by omega) (by simp; omega) (by decide) (fun q => absurd q (by omega)) (by omega) (by simp; omega) hsm ?_ ?_ ?_) (by omega)
                  · rw [List.map_append, ← List.append_assoc, mkS_app]
                    exact (by rw [hmk, show List.map encM1 [(pT τ z p).1 + s] = [3000 + (mcd (pT τ z p).1)] by simp only [List.map_cons, List.map_nil]; rw [he1, if_pos (by omega)]]; exact (MP_f (p' := ((pT τ z p).2 + 1)) (wr' := 0) (o' := o) (ln' := ln) h14 ⟨rfl, rfl, rfl, rfl, rfl, rfl⟩ rfl h14.2.2.2.1 h14.2.2.2.2.1 h14.2.2.2.2.2.1))
                  · intro l2 q2 V' a1 a2 a3 a4
                    exact k1 l2 q2 V' (by rw [show 4 - n = (4 - (n + 1)) + 1 by omega]; unfold pM; rw [if_neg (by omega), if_pos ⟨by omega, by omega⟩, if_pos (by omega)]; exact a1) a2 (MF_tr (MF_u0 (by decide) (MF_tr (MF_tr (MF_tr (MF_rf a V) f1) f12) f14)) a3) (a4.trans (e14.trans (e12.trans (e1.trans rfl))))
                  · intro q2 V' st' g' a1 a2 a3 a4
                    exact k2 q2 V' st' g' (by rw [show 4 - n = (4 - (n + 1)) + 1 by omega]; unfold pM; rw [if_neg (by omega), if_pos ⟨by omega, by omega⟩, if_pos (by omega)]; exact a1) a2 (MF_tr (MF_u0 (by decide) (MF_tr (MF_tr (MF_tr (MF_rf a V) f1) f12) f14)) a3) (a4.trans (e14.trans (e12.trans (e1.trans rfl))))
        · refine y_ic rfl rfl ?_
          refine y_go rfl rfl ?_
          refine y_cV (as := [.ref 170, iv (mcd cell), iv 1]) rfl rfl rfl rfl rfl (md170 hM) ⟨rfl, (Nat.le_of_ble_eq_true rfl), (Nat.le_of_ble_eq_true rfl)⟩ (by omega) (ct_marks (b := true) hM hcell h1 hT.1 hln (mkS_bd hln (tcd_le hcell) acc true g0 hsa hg0) (fun V15 h15 f15 e15 => ?_))
          refine y_n0 ?_
          refine y_ld (x := iv (n : Int)) rfl rfl (fun d => rfl) ?_
          refine y_zgt rfl rfl rfl (by omega) (fun g49 => absurd g49 (by omega)) (fun g49 => ?_)
          refine y_ld (x := iv (mcd (pT τ z p).1)) rfl rfl (fun d => rfl) ?_
          refine y_ld (x := iv (mcd cell)) rfl rfl (fun d => rfl) ?_
          refine y_jeq rfl rfl rfl (by omega) (fun g50 => absurd g50 (by omega)) (fun g50 => ?_)
          refine y_ld (x := .ref 170) rfl rfl (fun d => rfl) ?_
          refine y_ld (x := iv (mcd (pT τ z p).1)) rfl rfl (fun d => rfl) ?_
          refine y_ic rfl rfl ?_
          refine y_cV (as := [.ref 170, iv (mcd (pT τ z p).1), iv 1]) rfl rfl rfl rfl rfl (md170 hM) ⟨rfl, (Nat.le_of_ble_eq_true rfl), (Nat.le_of_ble_eq_true rfl)⟩ (by omega) (ct_marks (b := true) hM (pT_cd τ z p q2) h15 hT.1 hln (mk_bd hln (mkS_bd hln (tcd_le hcell) acc true g0 hsa hg0) _ true (tcd_le hcell)) (fun V16 h16 f16 e16 => ?_))
          refine y_n0 ?_
          refine y_ld (x := .ref 170) rfl rfl (fun d => rfl) ?_
          refine y_ld (x := iv sg) rfl rfl (fun d => rfl) ?_
          refine y_bi rfl rfl (by decide) ?_
          refine y_jne rfl rfl rfl (by omega) (fun g51 => ?_) (fun g51 => ?_)
          · refine y_si rfl rfl (by decide) ?_
            refine y_ld (x := iv (mcd (pT τ z p).1)) rfl rfl (fun d => rfl) ?_
            refine y_add (z := (4000 + (mcd (pT τ z p).1))) rfl rfl rfl ?_
            have hr1 := raw_t (s := s) (pT_cd τ z p q2) (by omega)
            have he1 := encM1_t (s := s) (pT_cd τ z p q2) (by omega)
            have hsm : smO (acc ++ [(pT τ z p).1 + s]) := smO_app hsa (by rw [hr1]; exact (pT_cd τ z p q2))
            have hcc : ¬ (pT τ z p).1 = cell := fun q => g25 (by rw [q])
            have hmk : mkS1 ln cell (true && acc.isEmpty) (mkS ln cell true g0 acc) ((pT τ z p).1 + s) = mk ln (mk ln (mkS ln cell true g0 acc) cell true) (pT τ z p).1 true := by
              rw [acc_nil hal (by omega)]; unfold mkS1; rw [if_pos rfl, if_neg (by omega), hr1]
            refine y_cV (as := [.ref 170, iv (4000 + (mcd (pT τ z p).1))]) rfl rfl rfl rfl rfl (md170 hM) ⟨rfl, (Nat.le_of_ble_eq_true rfl), (Nat.le_of_ble_eq_true rfl)⟩ (by omega) (ct_emits hM h16 hT.1 (by simp [encT_len]; omega) (fun V17 h17 f17 e17 => ?_))
            refine y_n0 ?_
            refine y_inc (z := ((n + 1 : Nat) : Int)) (lv' := [(2, iv ((n + 1 : Nat) : Int)), (5, iv (mcd (pT τ z p).1)), (0, .ref 170), (1, iv (mcd cell)), (3, iv 1), (4, iv sg)]) rfl rfl rfl (by omega) rfl ?_
            refine y_ld (x := .ref 170) rfl rfl (fun d => rfl) ?_
            refine y_cV (as := [.ref 170]) rfl rfl rfl rfl rfl (md170 hM) ⟨rfl, (Nat.le_of_ble_eq_true rfl), (Nat.le_of_ble_eq_true rfl)⟩ (by omega) (ct_here hM h17 (by omega) ?_)
            have hq82 := hr_rg hT ((pT τ z p).2)
            refine y_nv ?_
            refine y_st (lv' := [(4, iv (hr τ z ((pT τ z p).2))), (2, iv ((n + 1 : Nat) : Int)), (5, iv (mcd (pT τ z p).1)), (0, .ref 170), (1, iv (mcd cell)), (3, iv 1)]) rfl rfl (fun d => rfl) ?_
            refine y_ld (x := .ref 170) rfl rfl (fun d => rfl) ?_
            refine y_gI (i := 12) (e := 0) rfl rfl rfl (md170 hM) rfl h17.2.2.2.1 ?_
            refine y_zne rfl rfl rfl (by decide) (fun g52 => absurd g52 (by decide)) (fun g52 => ?_)
            refine y_ld (x := iv ((n + 1 : Nat) : Int)) rfl rfl (fun d => rfl) ?_
            refine y_ic rfl rfl ?_
            refine y_jge rfl rfl rfl (by omega) (fun g53 => ?_) (fun g53 => ?_)
            · refine y_ic rfl rfl ?_
              refine y_st (lv' := [(3, iv 0), (4, iv (hr τ z ((pT τ z p).2))), (2, iv ((n + 1 : Nat) : Int)), (5, iv (mcd (pT τ z p).1)), (0, .ref 170), (1, iv (mcd cell))]) rfl rfl (fun d => rfl) ?_
              refine y_ld (x := .ref 170) rfl rfl (fun d => rfl) ?_
              refine y_in rfl rfl (fun d => rfl) ?_
              refine y_gI (i := 10) (e := ((pT τ z p).2 : Int)) rfl rfl rfl (md170 hM) rfl h17.2.1 ?_
              refine y_ld (x := iv 0) rfl rfl (fun d => rfl) ?_
              refine y_zeq rfl rfl rfl (by decide) (fun g54 => ?_) (fun g54 => absurd g54 (by decide))
              refine y_ic rfl rfl ?_
              refine y_add (z := (((pT τ z p).2 : Int) + 0)) rfl rfl rfl ?_
              refine y_pI (i := 10) rfl rfl rfl (md170 hM) rfl rfl ?_
              refine y_go rfl rfl ?_
              refine y_lv (l' := [(0, .ref 170), (1, iv (mcd cell)), (2, iv ((n + 1 : Nat) : Int)), (3, iv 0), (4, iv (hr τ z ((pT τ z p).2)))]) rfl ⟨rfl, rfl, rfl, rfl, rfl, trivial⟩ ?_
              refine y_ld (x := iv 0) rfl rfl (fun d => rfl) ?_
              refine y_zeq rfl rfl rfl (by decide) (fun g55 => ?_) (fun g55 => absurd g55 (by decide))
              refine y_ret rfl (fun d => rfl) ?_
              refine k1 (acc ++ [(pT τ z p).1 + s]) _ _ (by rw [show 4 - n = (4 - (n + 1)) + 1 by omega]; unfold pM; rw [if_neg (by omega), if_neg (by omega)]) ?_ (MF_u0 (by decide) (MF_tr (MF_tr (MF_tr (MF_tr (MF_rf a V) f1) f15) f16) f17)) (e17.trans (e16.trans (e15.trans (e1.trans rfl))))
              rw [List.map_append, ← List.append_assoc, mkS_app]
              exact (by rw [hmk, show List.map encM1 [(pT τ z p).1 + s] = [4000 + (mcd (pT τ z p).1)] by simp only [List.map_cons, List.map_nil]; rw [he1, if_neg (by omega)]]; exact (MP_f (p' := (pT τ z p).2) (wr' := 0) (o' := o) (ln' := ln) h17 ⟨rfl, rfl, rfl, rfl, rfl, rfl⟩ rfl h17.2.2.2.1 h17.2.2.2.2.1 h17.2.2.2.2.2.1))
            · refine y_ld (x := iv (hr τ z ((pT τ z p).2))) rfl rfl (fun d => rfl) ?_
              refine y_bi rfl rfl (by decide) ?_
              refine y_jeq rfl rfl rfl (by omega) (fun g56 => ?_) (fun g56 => ?_)
              · refine y_ic rfl rfl ?_
                refine y_go rfl rfl ?_
                refine y_st (lv' := [(3, iv 1), (4, iv (hr τ z ((pT τ z p).2))), (2, iv ((n + 1 : Nat) : Int)), (5, iv (mcd (pT τ z p).1)), (0, .ref 170), (1, iv (mcd cell))]) rfl rfl (fun d => rfl) ?_
                refine y_ld (x := .ref 170) rfl rfl (fun d => rfl) ?_
                refine y_in rfl rfl (fun d => rfl) ?_
                refine y_gI (i := 10) (e := ((pT τ z p).2 : Int)) rfl rfl rfl (md170 hM) rfl h17.2.1 ?_
                refine y_ld (x := iv 1) rfl rfl (fun d => rfl) ?_
                refine y_zeq rfl rfl rfl (by decide) (fun g57 => absurd g57 (by decide)) (fun g57 => ?_)
                refine y_ic rfl rfl ?_
                refine y_go rfl rfl ?_
                refine y_add (z := (((pT τ z p).2 : Int) + 1)) rfl rfl rfl ?_
                refine y_pI (i := 10) rfl rfl rfl (md170 hM) rfl rfl ?_
                have pl7 := hr_le (τ := τ) (z := z) (p := (pT τ z p).2) (by omega)
                refine y_go rfl rfl ?_
                refine y_lv (l' := [(0, .ref 170), (1, iv (mcd cell)), (2, iv ((n + 1 : Nat) : Int)), (3, iv 1), (4, iv (hr τ z ((pT τ z p).2)))]) rfl ⟨rfl, rfl, rfl, rfl, rfl, trivial⟩ ?_
                rw [show hr τ z (pT τ z p).2 = 43 from g56]
                refine y_mono (ih (n + 1) _ _ _ _ ((pT τ z p).2 + 1) 43 0 (acc ++ [(pT τ z p).1 + s]) (by omega) (by omega) (by simp; omega) (by decide) (fun q => absurd q (by omega)) (by omega) (by simp; omega) hsm ?_ ?_ ?_) (by omega)
                · rw [List.map_append, ← List.append_assoc, mkS_app]
                  exact (by rw [hmk, show List.map encM1 [(pT τ z p).1 + s] = [4000 + (mcd (pT τ z p).1)] by simp only [List.map_cons, List.map_nil]; rw [he1, if_neg (by omega)]]; exact (MP_f (p' := ((pT τ z p).2 + 1)) (wr' := 0) (o' := o) (ln' := ln) h17 ⟨rfl, rfl, rfl, rfl, rfl, rfl⟩ rfl h17.2.2.2.1 h17.2.2.2.2.1 h17.2.2.2.2.2.1))
                · intro l2 q2 V' a1 a2 a3 a4
                  exact k1 l2 q2 V' (by rw [show 4 - n = (4 - (n + 1)) + 1 by omega]; unfold pM; rw [if_neg (by omega), if_pos ⟨by omega, by omega⟩, if_neg (by omega)]; exact a1) a2 (MF_tr (MF_u0 (by decide) (MF_tr (MF_tr (MF_tr (MF_tr (MF_rf a V) f1) f15) f16) f17)) a3) (a4.trans (e17.trans (e16.trans (e15.trans (e1.trans rfl)))))
                · intro q2 V' st' g' a1 a2 a3 a4
                  exact k2 q2 V' st' g' (by rw [show 4 - n = (4 - (n + 1)) + 1 by omega]; unfold pM; rw [if_neg (by omega), if_pos ⟨by omega, by omega⟩, if_neg (by omega)]; exact a1) a2 (MF_tr (MF_u0 (by decide) (MF_tr (MF_tr (MF_tr (MF_tr (MF_rf a V) f1) f15) f16) f17)) a3) (a4.trans (e17.trans (e16.trans (e15.trans (e1.trans rfl)))))
              · refine y_ld (x := iv (hr τ z ((pT τ z p).2))) rfl rfl (fun d => rfl) ?_
                refine y_bi rfl rfl (by decide) ?_
                refine y_jne rfl rfl rfl (by omega) (fun g58 => ?_) (fun g58 => ?_)
                · refine y_ic rfl rfl ?_
                  refine y_st (lv' := [(3, iv 0), (4, iv (hr τ z ((pT τ z p).2))), (2, iv ((n + 1 : Nat) : Int)), (5, iv (mcd (pT τ z p).1)), (0, .ref 170), (1, iv (mcd cell))]) rfl rfl (fun d => rfl) ?_
                  refine y_ld (x := .ref 170) rfl rfl (fun d => rfl) ?_
                  refine y_in rfl rfl (fun d => rfl) ?_
                  refine y_gI (i := 10) (e := ((pT τ z p).2 : Int)) rfl rfl rfl (md170 hM) rfl h17.2.1 ?_
                  refine y_ld (x := iv 0) rfl rfl (fun d => rfl) ?_
                  refine y_zeq rfl rfl rfl (by decide) (fun g59 => ?_) (fun g59 => absurd g59 (by decide))
                  refine y_ic rfl rfl ?_
                  refine y_add (z := (((pT τ z p).2 : Int) + 0)) rfl rfl rfl ?_
                  refine y_pI (i := 10) rfl rfl rfl (md170 hM) rfl rfl ?_
                  refine y_go rfl rfl ?_
                  refine y_lv (l' := [(0, .ref 170), (1, iv (mcd cell)), (2, iv ((n + 1 : Nat) : Int)), (3, iv 0), (4, iv (hr τ z ((pT τ z p).2)))]) rfl ⟨rfl, rfl, rfl, rfl, rfl, trivial⟩ ?_
                  refine y_ld (x := iv 0) rfl rfl (fun d => rfl) ?_
                  refine y_zeq rfl rfl rfl (by decide) (fun g60 => ?_) (fun g60 => absurd g60 (by decide))
                  refine y_ret rfl (fun d => rfl) ?_
                  refine k1 (acc ++ [(pT τ z p).1 + s]) _ _ (by rw [show 4 - n = (4 - (n + 1)) + 1 by omega]; unfold pM; rw [if_neg (by omega), if_neg (by omega)]) ?_ (MF_u0 (by decide) (MF_tr (MF_tr (MF_tr (MF_tr (MF_rf a V) f1) f15) f16) f17)) (e17.trans (e16.trans (e15.trans (e1.trans rfl))))
                  rw [List.map_append, ← List.append_assoc, mkS_app]
                  exact (by rw [hmk, show List.map encM1 [(pT τ z p).1 + s] = [4000 + (mcd (pT τ z p).1)] by simp only [List.map_cons, List.map_nil]; rw [he1, if_neg (by omega)]]; exact (MP_f (p' := (pT τ z p).2) (wr' := 0) (o' := o) (ln' := ln) h17 ⟨rfl, rfl, rfl, rfl, rfl, rfl⟩ rfl h17.2.2.2.1 h17.2.2.2.2.1 h17.2.2.2.2.2.1))
                · refine y_ic rfl rfl ?_
                  refine y_go rfl rfl ?_
                  refine y_st (lv' := [(3, iv 1), (4, iv (hr τ z ((pT τ z p).2))), (2, iv ((n + 1 : Nat) : Int)), (5, iv (mcd (pT τ z p).1)), (0, .ref 170), (1, iv (mcd cell))]) rfl rfl (fun d => rfl) ?_
                  refine y_ld (x := .ref 170) rfl rfl (fun d => rfl) ?_
                  refine y_in rfl rfl (fun d => rfl) ?_
                  refine y_gI (i := 10) (e := ((pT τ z p).2 : Int)) rfl rfl rfl (md170 hM) rfl h17.2.1 ?_
                  refine y_ld (x := iv 1) rfl rfl (fun d => rfl) ?_
                  refine y_zeq rfl rfl rfl (by decide) (fun g61 => absurd g61 (by decide)) (fun g61 => ?_)
                  refine y_ic rfl rfl ?_
                  refine y_go rfl rfl ?_
                  refine y_add (z := (((pT τ z p).2 : Int) + 1)) rfl rfl rfl ?_
                  refine y_pI (i := 10) rfl rfl rfl (md170 hM) rfl rfl ?_
                  have pl7 := hr_le (τ := τ) (z := z) (p := (pT τ z p).2) (by omega)
                  refine y_go rfl rfl ?_
                  refine y_lv (l' := [(0, .ref 170), (1, iv (mcd cell)), (2, iv ((n + 1 : Nat) : Int)), (3, iv 1), (4, iv (hr τ z ((pT τ z p).2)))]) rfl ⟨rfl, rfl, rfl, rfl, rfl, trivial⟩ ?_
                  rw [show hr τ z (pT τ z p).2 = 45 from (by omega)]
                  refine y_mono (ih (n + 1) _ _ _ _ ((pT τ z p).2 + 1) 45 256 (acc ++ [(pT τ z p).1 + s]) (by omega) (by omega) (by simp; omega) (by decide) (fun q => absurd q (by omega)) (by omega) (by simp; omega) hsm ?_ ?_ ?_) (by omega)
                  · rw [List.map_append, ← List.append_assoc, mkS_app]
                    exact (by rw [hmk, show List.map encM1 [(pT τ z p).1 + s] = [4000 + (mcd (pT τ z p).1)] by simp only [List.map_cons, List.map_nil]; rw [he1, if_neg (by omega)]]; exact (MP_f (p' := ((pT τ z p).2 + 1)) (wr' := 0) (o' := o) (ln' := ln) h17 ⟨rfl, rfl, rfl, rfl, rfl, rfl⟩ rfl h17.2.2.2.1 h17.2.2.2.2.1 h17.2.2.2.2.2.1))
                  · intro l2 q2 V' a1 a2 a3 a4
                    exact k1 l2 q2 V' (by rw [show 4 - n = (4 - (n + 1)) + 1 by omega]; unfold pM; rw [if_neg (by omega), if_pos ⟨by omega, by omega⟩, if_pos (by omega)]; exact a1) a2 (MF_tr (MF_u0 (by decide) (MF_tr (MF_tr (MF_tr (MF_tr (MF_rf a V) f1) f15) f16) f17)) a3) (a4.trans (e17.trans (e16.trans (e15.trans (e1.trans rfl)))))
                  · intro q2 V' st' g' a1 a2 a3 a4
                    exact k2 q2 V' st' g' (by rw [show 4 - n = (4 - (n + 1)) + 1 by omega]; unfold pM; rw [if_neg (by omega), if_pos ⟨by omega, by omega⟩, if_pos (by omega)]; exact a1) a2 (MF_tr (MF_u0 (by decide) (MF_tr (MF_tr (MF_tr (MF_tr (MF_rf a V) f1) f15) f16) f17)) a3) (a4.trans (e17.trans (e16.trans (e15.trans (e1.trans rfl)))))
          · refine y_si rfl rfl (by decide) ?_
            refine y_go rfl rfl ?_
            refine y_ld (x := iv (mcd (pT τ z p).1)) rfl rfl (fun d => rfl) ?_
            refine y_add (z := (3000 + (mcd (pT τ z p).1))) rfl rfl rfl ?_
            have hr1 := raw_t (s := s) (pT_cd τ z p q2) (by omega)
            have he1 := encM1_t (s := s) (pT_cd τ z p q2) (by omega)
            have hsm : smO (acc ++ [(pT τ z p).1 + s]) := smO_app hsa (by rw [hr1]; exact (pT_cd τ z p q2))
            have hcc : ¬ (pT τ z p).1 = cell := fun q => g25 (by rw [q])
            have hmk : mkS1 ln cell (true && acc.isEmpty) (mkS ln cell true g0 acc) ((pT τ z p).1 + s) = mk ln (mk ln (mkS ln cell true g0 acc) cell true) (pT τ z p).1 true := by
              rw [acc_nil hal (by omega)]; unfold mkS1; rw [if_pos rfl, if_neg (by omega), hr1]
            refine y_cV (as := [.ref 170, iv (3000 + (mcd (pT τ z p).1))]) rfl rfl rfl rfl rfl (md170 hM) ⟨rfl, (Nat.le_of_ble_eq_true rfl), (Nat.le_of_ble_eq_true rfl)⟩ (by omega) (ct_emits hM h16 hT.1 (by simp [encT_len]; omega) (fun V18 h18 f18 e18 => ?_))
            refine y_n0 ?_
            refine y_inc (z := ((n + 1 : Nat) : Int)) (lv' := [(2, iv ((n + 1 : Nat) : Int)), (5, iv (mcd (pT τ z p).1)), (0, .ref 170), (1, iv (mcd cell)), (3, iv 1), (4, iv sg)]) rfl rfl rfl (by omega) rfl ?_
            refine y_ld (x := .ref 170) rfl rfl (fun d => rfl) ?_
            refine y_cV (as := [.ref 170]) rfl rfl rfl rfl rfl (md170 hM) ⟨rfl, (Nat.le_of_ble_eq_true rfl), (Nat.le_of_ble_eq_true rfl)⟩ (by omega) (ct_here hM h18 (by omega) ?_)
            have hq82 := hr_rg hT ((pT τ z p).2)
            refine y_nv ?_
            refine y_st (lv' := [(4, iv (hr τ z ((pT τ z p).2))), (2, iv ((n + 1 : Nat) : Int)), (5, iv (mcd (pT τ z p).1)), (0, .ref 170), (1, iv (mcd cell)), (3, iv 1)]) rfl rfl (fun d => rfl) ?_
            refine y_ld (x := .ref 170) rfl rfl (fun d => rfl) ?_
            refine y_gI (i := 12) (e := 0) rfl rfl rfl (md170 hM) rfl h18.2.2.2.1 ?_
            refine y_zne rfl rfl rfl (by decide) (fun g62 => absurd g62 (by decide)) (fun g62 => ?_)
            refine y_ld (x := iv ((n + 1 : Nat) : Int)) rfl rfl (fun d => rfl) ?_
            refine y_ic rfl rfl ?_
            refine y_jge rfl rfl rfl (by omega) (fun g63 => ?_) (fun g63 => ?_)
            · refine y_ic rfl rfl ?_
              refine y_st (lv' := [(3, iv 0), (4, iv (hr τ z ((pT τ z p).2))), (2, iv ((n + 1 : Nat) : Int)), (5, iv (mcd (pT τ z p).1)), (0, .ref 170), (1, iv (mcd cell))]) rfl rfl (fun d => rfl) ?_
              refine y_ld (x := .ref 170) rfl rfl (fun d => rfl) ?_
              refine y_in rfl rfl (fun d => rfl) ?_
              refine y_gI (i := 10) (e := ((pT τ z p).2 : Int)) rfl rfl rfl (md170 hM) rfl h18.2.1 ?_
              refine y_ld (x := iv 0) rfl rfl (fun d => rfl) ?_
              refine y_zeq rfl rfl rfl (by decide) (fun g64 => ?_) (fun g64 => absurd g64 (by decide))
              refine y_ic rfl rfl ?_
              refine y_add (z := (((pT τ z p).2 : Int) + 0)) rfl rfl rfl ?_
              refine y_pI (i := 10) rfl rfl rfl (md170 hM) rfl rfl ?_
              refine y_go rfl rfl ?_
              refine y_lv (l' := [(0, .ref 170), (1, iv (mcd cell)), (2, iv ((n + 1 : Nat) : Int)), (3, iv 0), (4, iv (hr τ z ((pT τ z p).2)))]) rfl ⟨rfl, rfl, rfl, rfl, rfl, trivial⟩ ?_
              refine y_ld (x := iv 0) rfl rfl (fun d => rfl) ?_
              refine y_zeq rfl rfl rfl (by decide) (fun g65 => ?_) (fun g65 => absurd g65 (by decide))
              refine y_ret rfl (fun d => rfl) ?_
              refine k1 (acc ++ [(pT τ z p).1 + s]) _ _ (by rw [show 4 - n = (4 - (n + 1)) + 1 by omega]; unfold pM; rw [if_neg (by omega), if_neg (by omega)]) ?_ (MF_u0 (by decide) (MF_tr (MF_tr (MF_tr (MF_tr (MF_rf a V) f1) f15) f16) f18)) (e18.trans (e16.trans (e15.trans (e1.trans rfl))))
              rw [List.map_append, ← List.append_assoc, mkS_app]
              exact (by rw [hmk, show List.map encM1 [(pT τ z p).1 + s] = [3000 + (mcd (pT τ z p).1)] by simp only [List.map_cons, List.map_nil]; rw [he1, if_pos (by omega)]]; exact (MP_f (p' := (pT τ z p).2) (wr' := 0) (o' := o) (ln' := ln) h18 ⟨rfl, rfl, rfl, rfl, rfl, rfl⟩ rfl h18.2.2.2.1 h18.2.2.2.2.1 h18.2.2.2.2.2.1))
            · refine y_ld (x := iv (hr τ z ((pT τ z p).2))) rfl rfl (fun d => rfl) ?_
              refine y_bi rfl rfl (by decide) ?_
              refine y_jeq rfl rfl rfl (by omega) (fun g66 => ?_) (fun g66 => ?_)
              · refine y_ic rfl rfl ?_
                refine y_go rfl rfl ?_
                refine y_st (lv' := [(3, iv 1), (4, iv (hr τ z ((pT τ z p).2))), (2, iv ((n + 1 : Nat) : Int)), (5, iv (mcd (pT τ z p).1)), (0, .ref 170), (1, iv (mcd cell))]) rfl rfl (fun d => rfl) ?_
                refine y_ld (x := .ref 170) rfl rfl (fun d => rfl) ?_
                refine y_in rfl rfl (fun d => rfl) ?_
                refine y_gI (i := 10) (e := ((pT τ z p).2 : Int)) rfl rfl rfl (md170 hM) rfl h18.2.1 ?_
                refine y_ld (x := iv 1) rfl rfl (fun d => rfl) ?_
                refine y_zeq rfl rfl rfl (by decide) (fun g67 => absurd g67 (by decide)) (fun g67 => ?_)
                refine y_ic rfl rfl ?_
                refine y_go rfl rfl ?_
                refine y_add (z := (((pT τ z p).2 : Int) + 1)) rfl rfl rfl ?_
                refine y_pI (i := 10) rfl rfl rfl (md170 hM) rfl rfl ?_
                have pl7 := hr_le (τ := τ) (z := z) (p := (pT τ z p).2) (by omega)
                refine y_go rfl rfl ?_
                refine y_lv (l' := [(0, .ref 170), (1, iv (mcd cell)), (2, iv ((n + 1 : Nat) : Int)), (3, iv 1), (4, iv (hr τ z ((pT τ z p).2)))]) rfl ⟨rfl, rfl, rfl, rfl, rfl, trivial⟩ ?_
                rw [show hr τ z (pT τ z p).2 = 43 from g66]
                refine y_mono (ih (n + 1) _ _ _ _ ((pT τ z p).2 + 1) 43 0 (acc ++ [(pT τ z p).1 + s]) (by omega) (by omega) (by simp; omega) (by decide) (fun q => absurd q (by omega)) (by omega) (by simp; omega) hsm ?_ ?_ ?_) (by omega)
                · rw [List.map_append, ← List.append_assoc, mkS_app]
                  exact (by rw [hmk, show List.map encM1 [(pT τ z p).1 + s] = [3000 + (mcd (pT τ z p).1)] by simp only [List.map_cons, List.map_nil]; rw [he1, if_pos (by omega)]]; exact (MP_f (p' := ((pT τ z p).2 + 1)) (wr' := 0) (o' := o) (ln' := ln) h18 ⟨rfl, rfl, rfl, rfl, rfl, rfl⟩ rfl h18.2.2.2.1 h18.2.2.2.2.1 h18.2.2.2.2.2.1))
                · intro l2 q2 V' a1 a2 a3 a4
                  exact k1 l2 q2 V' (by rw [show 4 - n = (4 - (n + 1)) + 1 by omega]; unfold pM; rw [if_neg (by omega), if_pos ⟨by omega, by omega⟩, if_neg (by omega)]; exact a1) a2 (MF_tr (MF_u0 (by decide) (MF_tr (MF_tr (MF_tr (MF_tr (MF_rf a V) f1) f15) f16) f18)) a3) (a4.trans (e18.trans (e16.trans (e15.trans (e1.trans rfl)))))
                · intro q2 V' st' g' a1 a2 a3 a4
                  exact k2 q2 V' st' g' (by rw [show 4 - n = (4 - (n + 1)) + 1 by omega]; unfold pM; rw [if_neg (by omega), if_pos ⟨by omega, by omega⟩, if_neg (by omega)]; exact a1) a2 (MF_tr (MF_u0 (by decide) (MF_tr (MF_tr (MF_tr (MF_tr (MF_rf a V) f1) f15) f16) f18)) a3) (a4.trans (e18.trans (e16.trans (e15.trans (e1.trans rfl)))))
              · refine y_ld (x := iv (hr τ z ((pT τ z p).2))) rfl rfl (fun d => rfl) ?_
                refine y_bi rfl rfl (by decide) ?_
                refine y_jne rfl rfl rfl (by omega) (fun g68 => ?_) (fun g68 => ?_)
                · refine y_ic rfl rfl ?_
                  refine y_st (lv' := [(3, iv 0), (4, iv (hr τ z ((pT τ z p).2))), (2, iv ((n + 1 : Nat) : Int)), (5, iv (mcd (pT τ z p).1)), (0, .ref 170), (1, iv (mcd cell))]) rfl rfl (fun d => rfl) ?_
                  refine y_ld (x := .ref 170) rfl rfl (fun d => rfl) ?_
                  refine y_in rfl rfl (fun d => rfl) ?_
                  refine y_gI (i := 10) (e := ((pT τ z p).2 : Int)) rfl rfl rfl (md170 hM) rfl h18.2.1 ?_
                  refine y_ld (x := iv 0) rfl rfl (fun d => rfl) ?_
                  refine y_zeq rfl rfl rfl (by decide) (fun g69 => ?_) (fun g69 => absurd g69 (by decide))
                  refine y_ic rfl rfl ?_
                  refine y_add (z := (((pT τ z p).2 : Int) + 0)) rfl rfl rfl ?_
                  refine y_pI (i := 10) rfl rfl rfl (md170 hM) rfl rfl ?_
                  refine y_go rfl rfl ?_
                  refine y_lv (l' := [(0, .ref 170), (1, iv (mcd cell)), (2, iv ((n + 1 : Nat) : Int)), (3, iv 0), (4, iv (hr τ z ((pT τ z p).2)))]) rfl ⟨rfl, rfl, rfl, rfl, rfl, trivial⟩ ?_
                  refine y_ld (x := iv 0) rfl rfl (fun d => rfl) ?_
                  refine y_zeq rfl rfl rfl (by decide) (fun g70 => ?_) (fun g70 => absurd g70 (by decide))
                  refine y_ret rfl (fun d => rfl) ?_
                  refine k1 (acc ++ [(pT τ z p).1 + s]) _ _ (by rw [show 4 - n = (4 - (n + 1)) + 1 by omega]; unfold pM; rw [if_neg (by omega), if_neg (by omega)]) ?_ (MF_u0 (by decide) (MF_tr (MF_tr (MF_tr (MF_tr (MF_rf a V) f1) f15) f16) f18)) (e18.trans (e16.trans (e15.trans (e1.trans rfl))))
                  rw [List.map_append, ← List.append_assoc, mkS_app]
                  exact (by rw [hmk, show List.map encM1 [(pT τ z p).1 + s] = [3000 + (mcd (pT τ z p).1)] by simp only [List.map_cons, List.map_nil]; rw [he1, if_pos (by omega)]]; exact (MP_f (p' := (pT τ z p).2) (wr' := 0) (o' := o) (ln' := ln) h18 ⟨rfl, rfl, rfl, rfl, rfl, rfl⟩ rfl h18.2.2.2.1 h18.2.2.2.2.1 h18.2.2.2.2.2.1))
                · refine y_ic rfl rfl ?_
                  refine y_go rfl rfl ?_
                  refine y_st (lv' := [(3, iv 1), (4, iv (hr τ z ((pT τ z p).2))), (2, iv ((n + 1 : Nat) : Int)), (5, iv (mcd (pT τ z p).1)), (0, .ref 170), (1, iv (mcd cell))]) rfl rfl (fun d => rfl) ?_
                  refine y_ld (x := .ref 170) rfl rfl (fun d => rfl) ?_
                  refine y_in rfl rfl (fun d => rfl) ?_
                  refine y_gI (i := 10) (e := ((pT τ z p).2 : Int)) rfl rfl rfl (md170 hM) rfl h18.2.1 ?_
                  refine y_ld (x := iv 1) rfl rfl (fun d => rfl) ?_
                  refine y_zeq rfl rfl rfl (by decide) (fun g71 => absurd g71 (by decide)) (fun g71 => ?_)
                  refine y_ic rfl rfl ?_
                  refine y_go rfl rfl ?_
                  refine y_add (z := (((pT τ z p).2 : Int) + 1)) rfl rfl rfl ?_
                  refine y_pI (i := 10) rfl rfl rfl (md170 hM) rfl rfl ?_
                  have pl7 := hr_le (τ := τ) (z := z) (p := (pT τ z p).2) (by omega)
                  refine y_go rfl rfl ?_
                  refine y_lv (l' := [(0, .ref 170), (1, iv (mcd cell)), (2, iv ((n + 1 : Nat) : Int)), (3, iv 1), (4, iv (hr τ z ((pT τ z p).2)))]) rfl ⟨rfl, rfl, rfl, rfl, rfl, trivial⟩ ?_
                  rw [show hr τ z (pT τ z p).2 = 45 from (by omega)]
                  refine y_mono (ih (n + 1) _ _ _ _ ((pT τ z p).2 + 1) 45 256 (acc ++ [(pT τ z p).1 + s]) (by omega) (by omega) (by simp; omega) (by decide) (fun q => absurd q (by omega)) (by omega) (by simp; omega) hsm ?_ ?_ ?_) (by omega)
                  · rw [List.map_append, ← List.append_assoc, mkS_app]
                    exact (by rw [hmk, show List.map encM1 [(pT τ z p).1 + s] = [3000 + (mcd (pT τ z p).1)] by simp only [List.map_cons, List.map_nil]; rw [he1, if_pos (by omega)]]; exact (MP_f (p' := ((pT τ z p).2 + 1)) (wr' := 0) (o' := o) (ln' := ln) h18 ⟨rfl, rfl, rfl, rfl, rfl, rfl⟩ rfl h18.2.2.2.1 h18.2.2.2.2.1 h18.2.2.2.2.2.1))
                  · intro l2 q2 V' a1 a2 a3 a4
                    exact k1 l2 q2 V' (by rw [show 4 - n = (4 - (n + 1)) + 1 by omega]; unfold pM; rw [if_neg (by omega), if_pos ⟨by omega, by omega⟩, if_pos (by omega)]; exact a1) a2 (MF_tr (MF_u0 (by decide) (MF_tr (MF_tr (MF_tr (MF_tr (MF_rf a V) f1) f15) f16) f18)) a3) (a4.trans (e18.trans (e16.trans (e15.trans (e1.trans rfl)))))
                  · intro q2 V' st' g' a1 a2 a3 a4
                    exact k2 q2 V' st' g' (by rw [show 4 - n = (4 - (n + 1)) + 1 by omega]; unfold pM; rw [if_neg (by omega), if_pos ⟨by omega, by omega⟩, if_pos (by omega)]; exact a1) a2 (MF_tr (MF_u0 (by decide) (MF_tr (MF_tr (MF_tr (MF_tr (MF_rf a V) f1) f15) f16) f18)) a3) (a4.trans (e18.trans (e16.trans (e15.trans (e1.trans rfl)))))
    · have pl7 := pT_le τ z p (by omega)
      refine y_nv ?_
      refine y_st (lv' := [(5, iv x5), (0, .ref 170), (1, iv (mcd cell)), (2, iv (n : Int)), (3, iv 1), (4, iv sg)]) rfl rfl (fun d => rfl) ?_
      refine y_ld (x := iv (n : Int)) rfl rfl (fun d => rfl) ?_
      refine y_zne rfl rfl rfl (by omega) (fun g72 => ?_) (fun g72 => ?_)
      · refine y_ld (x := iv (n : Int)) rfl rfl (fun d => rfl) ?_
        refine y_zgt rfl rfl rfl (by omega) (fun g73 => ?_) (fun g73 => absurd g73 (by omega))
        refine y_ld (x := .ref 170) rfl rfl (fun d => rfl) ?_
        refine y_ld (x := iv x5) rfl rfl (fun d => rfl) ?_
        refine y_ic rfl rfl ?_
        refine y_cV (as := [.ref 170, iv x5, iv 1]) rfl rfl rfl rfl rfl (md170 hM) ⟨rfl, (Nat.le_of_ble_eq_true rfl), (Nat.le_of_ble_eq_true rfl)⟩ (by omega) (ct_marks1 hM h3 ?_)
        refine y_n0 ?_
        refine y_ld (x := .ref 170) rfl rfl (fun d => rfl) ?_
        refine y_ld (x := iv sg) rfl rfl (fun d => rfl) ?_
        refine y_bi rfl rfl (by decide) ?_
        refine y_jne rfl rfl rfl (by omega) (fun g74 => ?_) (fun g74 => ?_)
        · refine y_si rfl rfl (by decide) ?_
          refine y_ld (x := iv x5) rfl rfl (fun d => rfl) ?_
          refine y_add (z := (4000 + x5)) rfl rfl rfl ?_
          refine y_cV (as := [.ref 170, iv (4000 + x5)]) rfl rfl rfl rfl rfl (md170 hM) ⟨rfl, (Nat.le_of_ble_eq_true rfl), (Nat.le_of_ble_eq_true rfl)⟩ (by omega) (ct_emits1 hM h3 ?_)
          refine y_n0 ?_
          refine y_inc (z := ((n + 1 : Nat) : Int)) (lv' := [(2, iv ((n + 1 : Nat) : Int)), (5, iv x5), (0, .ref 170), (1, iv (mcd cell)), (3, iv 1), (4, iv sg)]) rfl rfl rfl (by omega) rfl ?_
          refine y_ld (x := .ref 170) rfl rfl (fun d => rfl) ?_
          refine y_cV (as := [.ref 170]) rfl rfl rfl rfl rfl (md170 hM) ⟨rfl, (Nat.le_of_ble_eq_true rfl), (Nat.le_of_ble_eq_true rfl)⟩ (by omega) (ct_here hM h3 (by omega) ?_)
          have hq82 := hr_rg hT ((pT τ z p).2)
          refine y_nv ?_
          refine y_st (lv' := [(4, iv (hr τ z ((pT τ z p).2))), (2, iv ((n + 1 : Nat) : Int)), (5, iv x5), (0, .ref 170), (1, iv (mcd cell)), (3, iv 1)]) rfl rfl (fun d => rfl) ?_
          refine y_ld (x := .ref 170) rfl rfl (fun d => rfl) ?_
          refine y_gI (i := 12) (e := 1) rfl rfl rfl (md170 hM) rfl h3.2.2.2.1 ?_
          refine y_zne rfl rfl rfl (by decide) (fun g75 => ?_) (fun g75 => absurd g75 (by decide))
          refine y_ic rfl rfl ?_
          refine y_st (lv' := [(3, iv 0), (4, iv (hr τ z ((pT τ z p).2))), (2, iv ((n + 1 : Nat) : Int)), (5, iv x5), (0, .ref 170), (1, iv (mcd cell))]) rfl rfl (fun d => rfl) ?_
          refine y_ld (x := .ref 170) rfl rfl (fun d => rfl) ?_
          refine y_in rfl rfl (fun d => rfl) ?_
          refine y_gI (i := 10) (e := ((pT τ z p).2 : Int)) rfl rfl rfl (md170 hM) rfl h3.2.1 ?_
          refine y_ld (x := iv 0) rfl rfl (fun d => rfl) ?_
          refine y_zeq rfl rfl rfl (by decide) (fun g76 => ?_) (fun g76 => absurd g76 (by decide))
          refine y_ic rfl rfl ?_
          refine y_add (z := (((pT τ z p).2 : Int) + 0)) rfl rfl rfl ?_
          refine y_pI (i := 10) rfl rfl rfl (md170 hM) rfl rfl ?_
          refine y_go rfl rfl ?_
          refine y_lv (l' := [(0, .ref 170), (1, iv (mcd cell)), (2, iv ((n + 1 : Nat) : Int)), (3, iv 0), (4, iv (hr τ z ((pT τ z p).2)))]) rfl ⟨rfl, rfl, rfl, rfl, rfl, trivial⟩ ?_
          refine y_ld (x := iv 0) rfl rfl (fun d => rfl) ?_
          refine y_zeq rfl rfl rfl (by decide) (fun g77 => ?_) (fun g77 => absurd g77 (by decide))
          refine y_ret rfl (fun d => rfl) ?_
          exact k2 _ _ _ _ (by rw [show 4 - n = (4 - (n + 1)) + 1 by omega]; unfold pM; rw [if_pos q4]) (MP_f (p' := (pT τ z p).2) (wr' := 1) (o' := o) (ln' := ln) h3 ⟨rfl, rfl, rfl, rfl, rfl, rfl⟩ rfl h3.2.2.2.1 h3.2.2.2.2.1 h3.2.2.2.2.2.1) (MF_u0 (by decide) (MF_tr (MF_rf a V) f3)) (e3.trans rfl)
        · refine y_si rfl rfl (by decide) ?_
          refine y_go rfl rfl ?_
          refine y_ld (x := iv x5) rfl rfl (fun d => rfl) ?_
          refine y_add (z := (3000 + x5)) rfl rfl rfl ?_
          refine y_cV (as := [.ref 170, iv (3000 + x5)]) rfl rfl rfl rfl rfl (md170 hM) ⟨rfl, (Nat.le_of_ble_eq_true rfl), (Nat.le_of_ble_eq_true rfl)⟩ (by omega) (ct_emits1 hM h3 ?_)
          refine y_n0 ?_
          refine y_inc (z := ((n + 1 : Nat) : Int)) (lv' := [(2, iv ((n + 1 : Nat) : Int)), (5, iv x5), (0, .ref 170), (1, iv (mcd cell)), (3, iv 1), (4, iv sg)]) rfl rfl rfl (by omega) rfl ?_
          refine y_ld (x := .ref 170) rfl rfl (fun d => rfl) ?_
          refine y_cV (as := [.ref 170]) rfl rfl rfl rfl rfl (md170 hM) ⟨rfl, (Nat.le_of_ble_eq_true rfl), (Nat.le_of_ble_eq_true rfl)⟩ (by omega) (ct_here hM h3 (by omega) ?_)
          have hq82 := hr_rg hT ((pT τ z p).2)
          refine y_nv ?_
          refine y_st (lv' := [(4, iv (hr τ z ((pT τ z p).2))), (2, iv ((n + 1 : Nat) : Int)), (5, iv x5), (0, .ref 170), (1, iv (mcd cell)), (3, iv 1)]) rfl rfl (fun d => rfl) ?_
          refine y_ld (x := .ref 170) rfl rfl (fun d => rfl) ?_
          refine y_gI (i := 12) (e := 1) rfl rfl rfl (md170 hM) rfl h3.2.2.2.1 ?_
          refine y_zne rfl rfl rfl (by decide) (fun g78 => ?_) (fun g78 => absurd g78 (by decide))
          refine y_ic rfl rfl ?_
          refine y_st (lv' := [(3, iv 0), (4, iv (hr τ z ((pT τ z p).2))), (2, iv ((n + 1 : Nat) : Int)), (5, iv x5), (0, .ref 170), (1, iv (mcd cell))]) rfl rfl (fun d => rfl) ?_
          refine y_ld (x := .ref 170) rfl rfl (fun d => rfl) ?_
          refine y_in rfl rfl (fun d => rfl) ?_
          refine y_gI (i := 10) (e := ((pT τ z p).2 : Int)) rfl rfl rfl (md170 hM) rfl h3.2.1 ?_
          refine y_ld (x := iv 0) rfl rfl (fun d => rfl) ?_
          refine y_zeq rfl rfl rfl (by decide) (fun g79 => ?_) (fun g79 => absurd g79 (by decide))
          refine y_ic rfl rfl ?_
          refine y_add (z := (((pT τ z p).2 : Int) + 0)) rfl rfl rfl ?_
          refine y_pI (i := 10) rfl rfl rfl (md170 hM) rfl rfl ?_
          refine y_go rfl rfl ?_
          refine y_lv (l' := [(0, .ref 170), (1, iv (mcd cell)), (2, iv ((n + 1 : Nat) : Int)), (3, iv 0), (4, iv (hr τ z ((pT τ z p).2)))]) rfl ⟨rfl, rfl, rfl, rfl, rfl, trivial⟩ ?_
          refine y_ld (x := iv 0) rfl rfl (fun d => rfl) ?_
          refine y_zeq rfl rfl rfl (by decide) (fun g80 => ?_) (fun g80 => absurd g80 (by decide))
          refine y_ret rfl (fun d => rfl) ?_
          exact k2 _ _ _ _ (by rw [show 4 - n = (4 - (n + 1)) + 1 by omega]; unfold pM; rw [if_pos q4]) (MP_f (p' := (pT τ z p).2) (wr' := 1) (o' := o) (ln' := ln) h3 ⟨rfl, rfl, rfl, rfl, rfl, rfl⟩ rfl h3.2.2.2.1 h3.2.2.2.2.1 h3.2.2.2.2.2.1) (MF_u0 (by decide) (MF_tr (MF_rf a V) f3)) (e3.trans rfl)
      · refine y_ld (x := .ref 170) rfl rfl (fun d => rfl) ?_
        refine y_ld (x := iv (mcd cell)) rfl rfl (fun d => rfl) ?_
        refine y_ld (x := iv x5) rfl rfl (fun d => rfl) ?_
        refine y_ld (x := iv (mcd cell)) rfl rfl (fun d => rfl) ?_
        refine y_jeq rfl rfl rfl (by omega) (fun g81 => ?_) (fun g81 => ?_)
        · refine y_ic rfl rfl ?_
          refine y_cV (as := [.ref 170, iv (mcd cell), iv 0]) rfl rfl rfl rfl rfl (md170 hM) ⟨rfl, (Nat.le_of_ble_eq_true rfl), (Nat.le_of_ble_eq_true rfl)⟩ (by omega) (ct_marks1 hM h3 ?_)
          refine y_n0 ?_
          refine y_ld (x := iv (n : Int)) rfl rfl (fun d => rfl) ?_
          refine y_zgt rfl rfl rfl (by omega) (fun g82 => absurd g82 (by omega)) (fun g82 => ?_)
          refine y_ld (x := iv x5) rfl rfl (fun d => rfl) ?_
          refine y_ld (x := iv (mcd cell)) rfl rfl (fun d => rfl) ?_
          refine y_jeq rfl rfl rfl (by omega) (fun g83 => ?_) (fun g83 => absurd g83 (by omega))
          refine y_ld (x := .ref 170) rfl rfl (fun d => rfl) ?_
          refine y_ld (x := iv sg) rfl rfl (fun d => rfl) ?_
          refine y_bi rfl rfl (by decide) ?_
          refine y_jne rfl rfl rfl (by omega) (fun g84 => ?_) (fun g84 => ?_)
          · refine y_si rfl rfl (by decide) ?_
            refine y_ld (x := iv x5) rfl rfl (fun d => rfl) ?_
            refine y_add (z := (4000 + x5)) rfl rfl rfl ?_
            refine y_cV (as := [.ref 170, iv (4000 + x5)]) rfl rfl rfl rfl rfl (md170 hM) ⟨rfl, (Nat.le_of_ble_eq_true rfl), (Nat.le_of_ble_eq_true rfl)⟩ (by omega) (ct_emits1 hM h3 ?_)
            refine y_n0 ?_
            refine y_inc (z := ((n + 1 : Nat) : Int)) (lv' := [(2, iv ((n + 1 : Nat) : Int)), (5, iv x5), (0, .ref 170), (1, iv (mcd cell)), (3, iv 1), (4, iv sg)]) rfl rfl rfl (by omega) rfl ?_
            refine y_ld (x := .ref 170) rfl rfl (fun d => rfl) ?_
            refine y_cV (as := [.ref 170]) rfl rfl rfl rfl rfl (md170 hM) ⟨rfl, (Nat.le_of_ble_eq_true rfl), (Nat.le_of_ble_eq_true rfl)⟩ (by omega) (ct_here hM h3 (by omega) ?_)
            have hq82 := hr_rg hT ((pT τ z p).2)
            refine y_nv ?_
            refine y_st (lv' := [(4, iv (hr τ z ((pT τ z p).2))), (2, iv ((n + 1 : Nat) : Int)), (5, iv x5), (0, .ref 170), (1, iv (mcd cell)), (3, iv 1)]) rfl rfl (fun d => rfl) ?_
            refine y_ld (x := .ref 170) rfl rfl (fun d => rfl) ?_
            refine y_gI (i := 12) (e := 1) rfl rfl rfl (md170 hM) rfl h3.2.2.2.1 ?_
            refine y_zne rfl rfl rfl (by decide) (fun g85 => ?_) (fun g85 => absurd g85 (by decide))
            refine y_ic rfl rfl ?_
            refine y_st (lv' := [(3, iv 0), (4, iv (hr τ z ((pT τ z p).2))), (2, iv ((n + 1 : Nat) : Int)), (5, iv x5), (0, .ref 170), (1, iv (mcd cell))]) rfl rfl (fun d => rfl) ?_
            refine y_ld (x := .ref 170) rfl rfl (fun d => rfl) ?_
            refine y_in rfl rfl (fun d => rfl) ?_
            refine y_gI (i := 10) (e := ((pT τ z p).2 : Int)) rfl rfl rfl (md170 hM) rfl h3.2.1 ?_
            refine y_ld (x := iv 0) rfl rfl (fun d => rfl) ?_
            refine y_zeq rfl rfl rfl (by decide) (fun g86 => ?_) (fun g86 => absurd g86 (by decide))
            refine y_ic rfl rfl ?_
            refine y_add (z := (((pT τ z p).2 : Int) + 0)) rfl rfl rfl ?_
            refine y_pI (i := 10) rfl rfl rfl (md170 hM) rfl rfl ?_
            refine y_go rfl rfl ?_
            refine y_lv (l' := [(0, .ref 170), (1, iv (mcd cell)), (2, iv ((n + 1 : Nat) : Int)), (3, iv 0), (4, iv (hr τ z ((pT τ z p).2)))]) rfl ⟨rfl, rfl, rfl, rfl, rfl, trivial⟩ ?_
            refine y_ld (x := iv 0) rfl rfl (fun d => rfl) ?_
            refine y_zeq rfl rfl rfl (by decide) (fun g87 => ?_) (fun g87 => absurd g87 (by decide))
            refine y_ret rfl (fun d => rfl) ?_
            exact k2 _ _ _ _ (by rw [show 4 - n = (4 - (n + 1)) + 1 by omega]; unfold pM; rw [if_pos q4]) (MP_f (p' := (pT τ z p).2) (wr' := 1) (o' := o) (ln' := ln) h3 ⟨rfl, rfl, rfl, rfl, rfl, rfl⟩ rfl h3.2.2.2.1 h3.2.2.2.2.1 h3.2.2.2.2.2.1) (MF_u0 (by decide) (MF_tr (MF_rf a V) f3)) (e3.trans rfl)
          · refine y_si rfl rfl (by decide) ?_
            refine y_go rfl rfl ?_
            refine y_ld (x := iv x5) rfl rfl (fun d => rfl) ?_
            refine y_add (z := (3000 + x5)) rfl rfl rfl ?_
            refine y_cV (as := [.ref 170, iv (3000 + x5)]) rfl rfl rfl rfl rfl (md170 hM) ⟨rfl, (Nat.le_of_ble_eq_true rfl), (Nat.le_of_ble_eq_true rfl)⟩ (by omega) (ct_emits1 hM h3 ?_)
            refine y_n0 ?_
            refine y_inc (z := ((n + 1 : Nat) : Int)) (lv' := [(2, iv ((n + 1 : Nat) : Int)), (5, iv x5), (0, .ref 170), (1, iv (mcd cell)), (3, iv 1), (4, iv sg)]) rfl rfl rfl (by omega) rfl ?_
            refine y_ld (x := .ref 170) rfl rfl (fun d => rfl) ?_
            refine y_cV (as := [.ref 170]) rfl rfl rfl rfl rfl (md170 hM) ⟨rfl, (Nat.le_of_ble_eq_true rfl), (Nat.le_of_ble_eq_true rfl)⟩ (by omega) (ct_here hM h3 (by omega) ?_)
            have hq82 := hr_rg hT ((pT τ z p).2)
            refine y_nv ?_
            refine y_st (lv' := [(4, iv (hr τ z ((pT τ z p).2))), (2, iv ((n + 1 : Nat) : Int)), (5, iv x5), (0, .ref 170), (1, iv (mcd cell)), (3, iv 1)]) rfl rfl (fun d => rfl) ?_
            refine y_ld (x := .ref 170) rfl rfl (fun d => rfl) ?_
            refine y_gI (i := 12) (e := 1) rfl rfl rfl (md170 hM) rfl h3.2.2.2.1 ?_
            refine y_zne rfl rfl rfl (by decide) (fun g88 => ?_) (fun g88 => absurd g88 (by decide))
            refine y_ic rfl rfl ?_
            refine y_st (lv' := [(3, iv 0), (4, iv (hr τ z ((pT τ z p).2))), (2, iv ((n + 1 : Nat) : Int)), (5, iv x5), (0, .ref 170), (1, iv (mcd cell))]) rfl rfl (fun d => rfl) ?_
            refine y_ld (x := .ref 170) rfl rfl (fun d => rfl) ?_
            refine y_in rfl rfl (fun d => rfl) ?_
            refine y_gI (i := 10) (e := ((pT τ z p).2 : Int)) rfl rfl rfl (md170 hM) rfl h3.2.1 ?_
            refine y_ld (x := iv 0) rfl rfl (fun d => rfl) ?_
            refine y_zeq rfl rfl rfl (by decide) (fun g89 => ?_) (fun g89 => absurd g89 (by decide))
            refine y_ic rfl rfl ?_
            refine y_add (z := (((pT τ z p).2 : Int) + 0)) rfl rfl rfl ?_
            refine y_pI (i := 10) rfl rfl rfl (md170 hM) rfl rfl ?_
            refine y_go rfl rfl ?_
            refine y_lv (l' := [(0, .ref 170), (1, iv (mcd cell)), (2, iv ((n + 1 : Nat) : Int)), (3, iv 0), (4, iv (hr τ z ((pT τ z p).2)))]) rfl ⟨rfl, rfl, rfl, rfl, rfl, trivial⟩ ?_
            refine y_ld (x := iv 0) rfl rfl (fun d => rfl) ?_
            refine y_zeq rfl rfl rfl (by decide) (fun g90 => ?_) (fun g90 => absurd g90 (by decide))
            refine y_ret rfl (fun d => rfl) ?_
            exact k2 _ _ _ _ (by rw [show 4 - n = (4 - (n + 1)) + 1 by omega]; unfold pM; rw [if_pos q4]) (MP_f (p' := (pT τ z p).2) (wr' := 1) (o' := o) (ln' := ln) h3 ⟨rfl, rfl, rfl, rfl, rfl, rfl⟩ rfl h3.2.2.2.1 h3.2.2.2.2.1 h3.2.2.2.2.2.1) (MF_u0 (by decide) (MF_tr (MF_rf a V) f3)) (e3.trans rfl)
        · refine y_ic rfl rfl ?_
          refine y_go rfl rfl ?_
          refine y_cV (as := [.ref 170, iv (mcd cell), iv 1]) rfl rfl rfl rfl rfl (md170 hM) ⟨rfl, (Nat.le_of_ble_eq_true rfl), (Nat.le_of_ble_eq_true rfl)⟩ (by omega) (ct_marks1 hM h3 ?_)
          refine y_n0 ?_
          refine y_ld (x := iv (n : Int)) rfl rfl (fun d => rfl) ?_
          refine y_zgt rfl rfl rfl (by omega) (fun g91 => absurd g91 (by omega)) (fun g91 => ?_)
          refine y_ld (x := iv x5) rfl rfl (fun d => rfl) ?_
          refine y_ld (x := iv (mcd cell)) rfl rfl (fun d => rfl) ?_
          refine y_jeq rfl rfl rfl (by omega) (fun g92 => absurd g92 (by omega)) (fun g92 => ?_)
          refine y_ld (x := .ref 170) rfl rfl (fun d => rfl) ?_
          refine y_ld (x := iv x5) rfl rfl (fun d => rfl) ?_
          refine y_ic rfl rfl ?_
          refine y_cV (as := [.ref 170, iv x5, iv 1]) rfl rfl rfl rfl rfl (md170 hM) ⟨rfl, (Nat.le_of_ble_eq_true rfl), (Nat.le_of_ble_eq_true rfl)⟩ (by omega) (ct_marks1 hM h3 ?_)
          refine y_n0 ?_
          refine y_ld (x := .ref 170) rfl rfl (fun d => rfl) ?_
          refine y_ld (x := iv sg) rfl rfl (fun d => rfl) ?_
          refine y_bi rfl rfl (by decide) ?_
          refine y_jne rfl rfl rfl (by omega) (fun g93 => ?_) (fun g93 => ?_)
          · refine y_si rfl rfl (by decide) ?_
            refine y_ld (x := iv x5) rfl rfl (fun d => rfl) ?_
            refine y_add (z := (4000 + x5)) rfl rfl rfl ?_
            refine y_cV (as := [.ref 170, iv (4000 + x5)]) rfl rfl rfl rfl rfl (md170 hM) ⟨rfl, (Nat.le_of_ble_eq_true rfl), (Nat.le_of_ble_eq_true rfl)⟩ (by omega) (ct_emits1 hM h3 ?_)
            refine y_n0 ?_
            refine y_inc (z := ((n + 1 : Nat) : Int)) (lv' := [(2, iv ((n + 1 : Nat) : Int)), (5, iv x5), (0, .ref 170), (1, iv (mcd cell)), (3, iv 1), (4, iv sg)]) rfl rfl rfl (by omega) rfl ?_
            refine y_ld (x := .ref 170) rfl rfl (fun d => rfl) ?_
            refine y_cV (as := [.ref 170]) rfl rfl rfl rfl rfl (md170 hM) ⟨rfl, (Nat.le_of_ble_eq_true rfl), (Nat.le_of_ble_eq_true rfl)⟩ (by omega) (ct_here hM h3 (by omega) ?_)
            have hq82 := hr_rg hT ((pT τ z p).2)
            refine y_nv ?_
            refine y_st (lv' := [(4, iv (hr τ z ((pT τ z p).2))), (2, iv ((n + 1 : Nat) : Int)), (5, iv x5), (0, .ref 170), (1, iv (mcd cell)), (3, iv 1)]) rfl rfl (fun d => rfl) ?_
            refine y_ld (x := .ref 170) rfl rfl (fun d => rfl) ?_
            refine y_gI (i := 12) (e := 1) rfl rfl rfl (md170 hM) rfl h3.2.2.2.1 ?_
            refine y_zne rfl rfl rfl (by decide) (fun g94 => ?_) (fun g94 => absurd g94 (by decide))
            refine y_ic rfl rfl ?_
            refine y_st (lv' := [(3, iv 0), (4, iv (hr τ z ((pT τ z p).2))), (2, iv ((n + 1 : Nat) : Int)), (5, iv x5), (0, .ref 170), (1, iv (mcd cell))]) rfl rfl (fun d => rfl) ?_
            refine y_ld (x := .ref 170) rfl rfl (fun d => rfl) ?_
            refine y_in rfl rfl (fun d => rfl) ?_
            refine y_gI (i := 10) (e := ((pT τ z p).2 : Int)) rfl rfl rfl (md170 hM) rfl h3.2.1 ?_
            refine y_ld (x := iv 0) rfl rfl (fun d => rfl) ?_
            refine y_zeq rfl rfl rfl (by decide) (fun g95 => ?_) (fun g95 => absurd g95 (by decide))
            refine y_ic rfl rfl ?_
            refine y_add (z := (((pT τ z p).2 : Int) + 0)) rfl rfl rfl ?_
            refine y_pI (i := 10) rfl rfl rfl (md170 hM) rfl rfl ?_
            refine y_go rfl rfl ?_
            refine y_lv (l' := [(0, .ref 170), (1, iv (mcd cell)), (2, iv ((n + 1 : Nat) : Int)), (3, iv 0), (4, iv (hr τ z ((pT τ z p).2)))]) rfl ⟨rfl, rfl, rfl, rfl, rfl, trivial⟩ ?_
            refine y_ld (x := iv 0) rfl rfl (fun d => rfl) ?_
            refine y_zeq rfl rfl rfl (by decide) (fun g96 => ?_) (fun g96 => absurd g96 (by decide))
            refine y_ret rfl (fun d => rfl) ?_
            exact k2 _ _ _ _ (by rw [show 4 - n = (4 - (n + 1)) + 1 by omega]; unfold pM; rw [if_pos q4]) (MP_f (p' := (pT τ z p).2) (wr' := 1) (o' := o) (ln' := ln) h3 ⟨rfl, rfl, rfl, rfl, rfl, rfl⟩ rfl h3.2.2.2.1 h3.2.2.2.2.1 h3.2.2.2.2.2.1) (MF_u0 (by decide) (MF_tr (MF_rf a V) f3)) (e3.trans rfl)
          · refine y_si rfl rfl (by decide) ?_
            refine y_go rfl rfl ?_
            refine y_ld (x := iv x5) rfl rfl (fun d => rfl) ?_
            refine y_add (z := (3000 + x5)) rfl rfl rfl ?_
            refine y_cV (as := [.ref 170, iv (3000 + x5)]) rfl rfl rfl rfl rfl (md170 hM) ⟨rfl, (Nat.le_of_ble_eq_true rfl), (Nat.le_of_ble_eq_true rfl)⟩ (by omega) (ct_emits1 hM h3 ?_)
            refine y_n0 ?_
            refine y_inc (z := ((n + 1 : Nat) : Int)) (lv' := [(2, iv ((n + 1 : Nat) : Int)), (5, iv x5), (0, .ref 170), (1, iv (mcd cell)), (3, iv 1), (4, iv sg)]) rfl rfl rfl (by omega) rfl ?_
            refine y_ld (x := .ref 170) rfl rfl (fun d => rfl) ?_
            refine y_cV (as := [.ref 170]) rfl rfl rfl rfl rfl (md170 hM) ⟨rfl, (Nat.le_of_ble_eq_true rfl), (Nat.le_of_ble_eq_true rfl)⟩ (by omega) (ct_here hM h3 (by omega) ?_)
            have hq82 := hr_rg hT ((pT τ z p).2)
            refine y_nv ?_
            refine y_st (lv' := [(4, iv (hr τ z ((pT τ z p).2))), (2, iv ((n + 1 : Nat) : Int)), (5, iv x5), (0, .ref 170), (1, iv (mcd cell)), (3, iv 1)]) rfl rfl (fun d => rfl) ?_
            refine y_ld (x := .ref 170) rfl rfl (fun d => rfl) ?_
            refine y_gI (i := 12) (e := 1) rfl rfl rfl (md170 hM) rfl h3.2.2.2.1 ?_
            refine y_zne rfl rfl rfl (by decide) (fun g97 => ?_) (fun g97 => absurd g97 (by decide))
            refine y_ic rfl rfl ?_
            refine y_st (lv' := [(3, iv 0), (4, iv (hr τ z ((pT τ z p).2))), (2, iv ((n + 1 : Nat) : Int)), (5, iv x5), (0, .ref 170), (1, iv (mcd cell))]) rfl rfl (fun d => rfl) ?_
            refine y_ld (x := .ref 170) rfl rfl (fun d => rfl) ?_
            refine y_in rfl rfl (fun d => rfl) ?_
            refine y_gI (i := 10) (e := ((pT τ z p).2 : Int)) rfl rfl rfl (md170 hM) rfl h3.2.1 ?_
            refine y_ld (x := iv 0) rfl rfl (fun d => rfl) ?_
            refine y_zeq rfl rfl rfl (by decide) (fun g98 => ?_) (fun g98 => absurd g98 (by decide))
            refine y_ic rfl rfl ?_
            refine y_add (z := (((pT τ z p).2 : Int) + 0)) rfl rfl rfl ?_
            refine y_pI (i := 10) rfl rfl rfl (md170 hM) rfl rfl ?_
            refine y_go rfl rfl ?_
            refine y_lv (l' := [(0, .ref 170), (1, iv (mcd cell)), (2, iv ((n + 1 : Nat) : Int)), (3, iv 0), (4, iv (hr τ z ((pT τ z p).2)))]) rfl ⟨rfl, rfl, rfl, rfl, rfl, trivial⟩ ?_
            refine y_ld (x := iv 0) rfl rfl (fun d => rfl) ?_
            refine y_zeq rfl rfl rfl (by decide) (fun g99 => ?_) (fun g99 => absurd g99 (by decide))
            refine y_ret rfl (fun d => rfl) ?_
            exact k2 _ _ _ _ (by rw [show 4 - n = (4 - (n + 1)) + 1 by omega]; unfold pM; rw [if_pos q4]) (MP_f (p' := (pT τ z p).2) (wr' := 1) (o' := o) (ln' := ln) h3 ⟨rfl, rfl, rfl, rfl, rfl, rfl⟩ rfl h3.2.2.2.1 h3.2.2.2.2.1 h3.2.2.2.2.2.1) (MF_u0 (by decide) (MF_tr (MF_rf a V) f3)) (e3.trans rfl)
set_option maxRecDepth 100000 in
set_option maxHeartbeats 4000000 in
theorem ct_sum (hM : MdS S) {a z p : Nat} {τ : Nat → Int} {o cell : Int} {ln : Int} {st0 : List Int} {g0 : Nat → Int} (hT : Tp τ a z) (hln : 0 ≤ ln ∧ ln ≤ 8) (hg0 : ∀ c, c < 8 → 0 ≤ g0 c ∧ g0 c ≤ 10) (hcell : tcd cell) (hp : p ≤ z) (hl : st0.length ≤ p + 2) (h : MP V a z τ p 0 o ln st0 g0) (k1 : ∀ l q V', pM τ z 4 0 p [] = (some l, q) → MP V' a z τ q 0 o ln (st0 ++ l.map encM1) (mkS ln cell true g0 l) → MF a V V' → V' 176 = V 176 → K u w none S V') (k2 : ∀ q V' st' g', pM τ z 4 0 p [] = (none, q) → MP V' a z τ q 1 o ln st' g' → MF a V V' → V' 176 = V 176 → K u w none S V') : y_R X 4 121 u w [.ref 170, iv (mcd cell)] S V K := by
  refine y_ent (lv' := [(0, .ref 170), (1, iv (mcd cell))]) (Nat.le_of_ble_eq_true rfl) rfl ?_
  refine y_ic rfl rfl ?_
  refine y_st (lv' := [(2, iv 0), (0, .ref 170), (1, iv (mcd cell))]) rfl rfl (fun d => rfl) ?_
  refine y_ic rfl rfl ?_
  refine y_st (lv' := [(3, iv 1), (2, iv 0), (0, .ref 170), (1, iv (mcd cell))]) rfl rfl (fun d => rfl) ?_
  refine y_bi rfl rfl (by decide) ?_
  refine y_st (lv' := [(4, iv 43), (3, iv 1), (2, iv 0), (0, .ref 170), (1, iv (mcd cell))]) rfl rfl (fun d => rfl) ?_
  refine y_lv (l' := [(0, .ref 170), (1, iv (mcd cell)), (2, iv 0), (3, iv 1), (4, iv 43)]) rfl ⟨rfl, rfl, rfl, rfl, rfl, trivial⟩ ?_
  exact y_mono (lp_sum hM hT hln hg0 hcell 4 0 _ _ _ _ p 43 0 [] rfl (by decide) rfl (Or.inl ⟨rfl, rfl⟩) (fun _ => rfl) hp (by simpa using hl) (fun t ht => by cases ht) (by simpa [mkS] using h) k1 k2) (by decide)
end
