/-! LINES and a whole TEXT in the class' reader -/
def encPc : List p_Li → List Int
  | [] => []
  | x :: r => (encTc x.2.2.1 ++ encAc x.2.2.2) ++ encPc r
theorem encPc_app (x : p_Li) : ∀ l : List p_Li, encPc (l ++ [x]) = (encPc l ++ encTc x.2.2.1) ++ encAc x.2.2.2
  | [] => by simp [encPc]
  | y :: l => by
    show (encTc y.2.2.1 ++ encAc y.2.2.2) ++ encPc (l ++ [x]) = _
    rw [encPc_app x l]
    simp [encPc]
/-- the LINES' rows of a class' TEXT -/
def LN (V : v_V) (t : Nat) (l : List p_Li) : Prop := ∀ i x, m_nth l i = some x → V (t + 1) i = x.1 ∧ V (t + 2) i = ((encPc (l.take i)).length : Int) ∧ V (t + 3) i = ((encPc (l.take i)).length : Int) + (encTc x.2.2.1).length ∧ V (t + 4) i = (x.2.2.2.length : Int)
theorem LN_app {V V' : v_V} {t : Nat} {l : List p_Li} {x : p_Li} (h0 : LN V t l) (hf : ∀ i, i ≠ l.length → V' (t + 1) i = V (t + 1) i ∧ V' (t + 2) i = V (t + 2) i ∧ V' (t + 3) i = V (t + 3) i ∧ V' (t + 4) i = V (t + 4) i)
    (h1 : V' (t + 1) l.length = x.1) (h2 : V' (t + 2) l.length = ((encPc l).length : Int)) (h3 : V' (t + 3) l.length = ((encPc l).length : Int) + (encTc x.2.2.1).length) (h4 : V' (t + 4) l.length = (x.2.2.2.length : Int)) : LN V' t (l ++ [x]) := by
  intro i y hi
  rw [m_nth_app] at hi
  by_cases h : i = l.length
  · rw [if_pos h] at hi
    cases hi
    subst h
    rw [List.take_append_of_le_length (Nat.le_refl _), List.take_length]
    exact ⟨h1, h2, h3, h4⟩
  · rw [if_neg h] at hi
    have hlt := m_nth_lt hi
    obtain ⟨f1, f2, f3, f4⟩ := hf i h
    rw [f1, f2, f3, f4, List.take_append_of_le_length (by omega)]
    exact h0 i y hi
/-- a TEXT as the class has it -/
def CT (V : v_V) (t : Nat) (l : List p_Li) : Prop := V t 0 = (l.length : Int) ∧ V t 6 = ((encPc l).length : Int) ∧ (∀ i x, m_nth (encPc l) i = some x → V (t + 5) i = x) ∧ LN V t l ∧ (∀ c, c < 8 → V (t + 6) c = if 1 < mkP 0 (fun _ => 0) l c then mkP 0 (fun _ => 0) l c - 2 else -5) ∧ (0 ≤ V t 7 ∧ V t 7 < 256 ∧ ∀ c, c < 8 → V t 7 / 2 ^ c % 2 = if mkP 0 (fun _ => 0) l c = 0 then 0 else 1)
/-- what a LINE's reading leaves as it was -/
def CL (t n : Nat) (V V' : v_V) : Prop := (∀ k, k ≠ 115 → k < t ∨ t + 6 < k → V' k = V k) ∧ (∀ i, i ≠ 2 → V' 115 i = V 115 i) ∧ ∀ i, i ≠ n → V' (t + 1) i = V (t + 1) i ∧ V' (t + 2) i = V (t + 2) i ∧ V' (t + 3) i = V (t + 3) i ∧ V' (t + 4) i = V (t + 4) i
theorem CL_rf (t n : Nat) (V : v_V) : CL t n V V := ⟨fun _ _ _ => rfl, fun _ _ => rfl, fun _ _ => ⟨rfl, rfl, rfl, rfl⟩⟩
theorem CL_tr {t n : Nat} {V V' V'' : v_V} (h : CL t n V V') (h2 : CL t n V' V'') : CL t n V V'' :=
  ⟨fun k q1 q2 => (h2.1 k q1 q2).trans (h.1 k q1 q2), fun i q => (h2.2.1 i q).trans (h.2.1 i q), fun i q => ⟨(h2.2.2 i q).1.trans (h.2.2 i q).1, (h2.2.2 i q).2.1.trans (h.2.2 i q).2.1, (h2.2.2 i q).2.2.1.trans (h.2.2 i q).2.2.1, (h2.2.2 i q).2.2.2.trans (h.2.2 i q).2.2.2⟩⟩
theorem CL_cf {t n : Nat} {V V' : v_V} (ht : 193 ≤ t) (h : CF t V V') : CL t n V V' := by
  have e : ∀ k, k ≠ 115 → k ≠ t → k ≠ t + 5 → k ≠ t + 6 → V' k = V k := h.1
  refine ⟨fun k q1 q2 => e k q1 (by omega) (by omega) (by omega), h.2.1, fun i _ => ?_⟩
  rw [e (t + 1) (by omega) (by omega) (by omega) (by omega), e (t + 2) (by omega) (by omega) (by omega) (by omega), e (t + 3) (by omega) (by omega) (by omega) (by omega), e (t + 4) (by omega) (by omega) (by omega) (by omega)]
  exact ⟨rfl, rfl, rfl, rfl⟩
theorem CL_ch {t n : Nat} {V V' : v_V} (ht : 193 ≤ t) (h : CH t n V V') : CL t n V V' := by
  have e : ∀ k, k ≠ 115 → k ≠ t → k ≠ t + 4 → k ≠ t + 5 → k ≠ t + 6 → V' k = V k := h.1
  refine ⟨fun k q1 q2 => e k q1 (by omega) (by omega) (by omega) (by omega), h.2.1, fun i q => ?_⟩
  rw [e (t + 1) (by omega) (by omega) (by omega) (by omega) (by omega), e (t + 2) (by omega) (by omega) (by omega) (by omega) (by omega), e (t + 3) (by omega) (by omega) (by omega) (by omega) (by omega)]
  exact ⟨rfl, rfl, rfl, h.2.2.2 i q⟩
theorem CP_3 {V : v_V} {t z : Nat} {τ : Nat → Int} {p : Nat} {ln x : Int} {st : List Int} {g : Nat → Int} {i : Nat} (ht : 193 ≤ t) (h : CP V t z τ p ln st g) : CP (v_up V (t + 3) i x) t z τ p ln st g :=
  CP_r h (v_up_ne (by omega)) (v_up_ne (by omega)) (v_up_ne (by omega)) (v_up_ne (by omega)) (v_up_ne (by omega))
theorem CL_3 {t n : Nat} {V : v_V} {x : Int} (ht : 193 ≤ t) : CL t n V (v_up V (t + 3) n x) := by
  refine ⟨fun k q1 q2 => v_up_ne (by omega), fun i q => ?_, fun i q => ?_⟩
  · rw [v_up_ne (by omega)]
  · rw [v_up_ne (by omega), v_up_ne (by omega), v_up_ni q, v_up_ne (by omega)]
    exact ⟨rfl, rfl, rfl, rfl⟩
theorem CP_k {V : v_V} {t z : Nat} {τ : Nat → Int} {p : Nat} {ln ln' x y : Int} {st : List Int} {g : Nat → Int} {i : Nat} (ht : 193 ≤ t) (h : CP V t z τ p ln st g) : CP (v_up (v_up (v_up V t 0 ln') (t + 1) i x) (t + 2) i y) t z τ p ln' st g := by
  obtain ⟨a1, a2, a3, a4, a5, a6, a7, a8⟩ := h
  refine ⟨?_, ?_, ?_, ?_, ?_, ?_, ?_, ?_⟩
  · rw [v_up_ne (by omega), v_up_ne (by omega), v_up_ne (by omega)]; exact a1
  · rw [v_up_ne (by omega), v_up_ne (by omega), v_up_ne (by omega)]; exact a2
  · rw [v_up_ne (by omega), v_up_ne (by omega), v_up_ne (by omega)]; exact a3
  · rw [v_up_ne (by omega), v_up_ne (by omega), v_up_eq]
  · rw [v_up_ne (by omega), v_up_ne (by omega), v_up_ni (by decide)]; exact a5
  · rw [v_up_ne (by omega), v_up_ne (by omega), v_up_ne (by omega)]; exact a6
  · rw [v_up_ne (by omega), v_up_ne (by omega), v_up_ne (by omega)]; exact a7
  · rw [v_up_ne (by omega), v_up_ne (by omega), v_up_ni (by decide)]; exact a8
theorem CL_k {t n : Nat} {V : v_V} {ln x y : Int} (ht : 193 ≤ t) : CL t n V (v_up (v_up (v_up V t 0 ln) (t + 1) n x) (t + 2) n y) := by
  refine ⟨fun k q1 q2 => ?_, fun i q => ?_, fun i q => ?_⟩
  · rw [v_up_ne (by omega), v_up_ne (by omega), v_up_ne (by omega)]
  · rw [v_up_ne (by omega), v_up_ne (by omega), v_up_ne (by omega)]
  · rw [v_up_ne (by omega), v_up_ni q, v_up_ne (by omega), v_up_ni q, v_up_ne (by omega), v_up_ne (by omega), v_up_ne (by omega), v_up_ne (by omega), v_up_ne (by omega), v_up_ne (by omega), v_up_ne (by omega), v_up_ne (by omega)]
    exact ⟨rfl, rfl, rfl, rfl⟩
section
variable {X : Nat → List Int32} {u w : Nat} {S : m_H} {V : v_V} {K : v_K}
set_option maxRecDepth 100000 in
set_option maxHeartbeats 4000000 in
theorem cr_kind (hC : ClF S) {t z p : Nat} {τ : Nat → Int} {ln : Int} {st : List Int} {g : Nat → Int} (hR : RdS S t) (hX : TxS S t) (ht : 193 ≤ t) (hT : Tp τ 0 z) {n : Nat} (hn : n < 8) (h : CP V t z τ p ln st g) (hp : p ≤ z) (k1 : (hr τ z p = 42 ∨ (48 ≤ hr τ z p ∧ hr τ z p ≤ 51)) → ∀ V', CP V' t z τ (p + 1) ((n : Int) + 1) st g → CL t n V V' → V' (t + 1) n = (if hr τ z p = 42 then (4 : Int) else hr τ z p - 48) → V' (t + 2) n = (st.length : Int) → K u w (some (iv 1)) S V') (k2 : ¬ (hr τ z p = 42 ∨ (48 ≤ hr τ z p ∧ hr τ z p ≤ 51)) → K u w (some (iv 0)) S V) : y_R X 2 19 u w [.ref 115, iv (n : Int)] S V K := by
  have hz := hT.2.1
  have hq0 := hr_rg hT p
  refine y_ent (lv' := [(0, .ref 115), (1, iv (n : Int))]) (Nat.le_of_ble_eq_true rfl) rfl ?_
  refine y_ld (x := .ref 115) rfl rfl (fun d => rfl) ?_
  refine y_bi rfl rfl (by decide) ?_
  refine y_cV (as := [.ref 115, iv 42]) rfl rfl rfl rfl rfl hR ⟨rfl, (Nat.le_of_ble_eq_true rfl), (Nat.le_of_ble_eq_true rfl)⟩ (by decide) (cr_takes hC hR hX ht hT (by decide) h (by omega) (fun q2 V1 h1 f1 => ?_) (fun q3 => ?_))
  · have pl4 := hr_le (τ := τ) (z := z) (p := p) (by omega)
    refine y_nv ?_
    refine y_zeq rfl rfl rfl (by decide) (fun g1 => absurd g1 (by decide)) (fun g1 => ?_)
    refine y_ic rfl rfl ?_
    refine y_go rfl rfl ?_
    refine y_st (lv' := [(2, iv 4), (0, .ref 115), (1, iv (n : Int))]) rfl rfl (fun d => rfl) ?_
    refine y_ld (x := iv 4) rfl rfl (fun d => rfl) ?_
    refine y_zge rfl rfl rfl (by decide) (fun g2 => ?_) (fun g2 => absurd g2 (by decide))
    refine y_ld (x := .ref 115) rfl rfl (fun d => rfl) ?_
    refine y_gR (i := 3) rfl rfl rfl hR rfl ?_
    refine y_ld (x := iv (n : Int)) rfl rfl (fun d => rfl) ?_
    refine y_ic rfl rfl ?_
    refine y_add (z := ((n : Int) + 1)) rfl rfl rfl ?_
    refine y_pI (i := 0) rfl rfl rfl hX.1 rfl rfl ?_
    refine y_ld (x := .ref 115) rfl rfl (fun d => rfl) ?_
    refine y_gR (i := 3) rfl rfl rfl hR rfl ?_
    refine y_gR (i := 1) rfl rfl rfl hX.1 rfl ?_
    refine y_ld (x := iv (n : Int)) rfl rfl (fun d => rfl) ?_
    refine y_ld (x := iv 4) rfl rfl (fun d => rfl) ?_
    refine y_ist (q := n) rfl rfl hX.2.1 (by omega) (by decide) (by omega) ?_
    refine y_ld (x := .ref 115) rfl rfl (fun d => rfl) ?_
    refine y_gR (i := 3) rfl rfl rfl hR rfl ?_
    refine y_gR (i := 2) rfl rfl rfl hX.1 rfl ?_
    refine y_ld (x := iv (n : Int)) rfl rfl (fun d => rfl) ?_
    refine y_ld (x := .ref 115) rfl rfl (fun d => rfl) ?_
    refine y_gR (i := 3) rfl rfl rfl hR rfl ?_
    refine y_gI (i := 6) (e := ((st).length : Int)) rfl rfl rfl hX.1 rfl (by rw [v_up_ne (by omega), v_up_ni (by omega)]; exact h1.2.2.2.2.1) ?_
    refine y_ist (q := n) rfl rfl hX.2.2.1 (by omega) (by decide) (by omega) ?_
    refine y_ic rfl rfl ?_
    refine y_rI rfl (by decide) ?_
    have ek : (if hr τ z p = 42 then (4 : Int) else hr τ z p - 48) = 4 := if_pos (by omega)
    refine k1 (by omega) _ (CP_k ht h1) (CL_tr (CL_cf ht (CF_tr (CF_rf t V) f1)) (CL_k ht)) ?_ ?_
    · rw [ek, v_up_ne (by omega), v_up_eq]
    · rw [v_up_eq]
  · refine y_nv ?_
    refine y_zeq rfl rfl rfl (by decide) (fun g3 => ?_) (fun g3 => absurd g3 (by decide))
    refine y_ld (x := .ref 115) rfl rfl (fun d => rfl) ?_
    refine y_ic rfl rfl ?_
    refine y_cV (as := [.ref 115, iv 3]) rfl rfl rfl rfl rfl hR ⟨rfl, (Nat.le_of_ble_eq_true rfl), (Nat.le_of_ble_eq_true rfl)⟩ (by decide) (cr_digit hC hR hX ht hT (by decide) h (by omega) (fun q6 V5 h5 f5 => ?_) (fun q7 => ?_))
    · have pl8 := hr_le (τ := τ) (z := z) (p := p) (by omega)
      refine y_nv ?_
      refine y_st (lv' := [(2, iv (hr τ z p - 48)), (0, .ref 115), (1, iv (n : Int))]) rfl rfl (fun d => rfl) ?_
      refine y_ld (x := iv (hr τ z p - 48)) rfl rfl (fun d => rfl) ?_
      refine y_zge rfl rfl rfl (by omega) (fun g4 => ?_) (fun g4 => absurd g4 (by omega))
      refine y_ld (x := .ref 115) rfl rfl (fun d => rfl) ?_
      refine y_gR (i := 3) rfl rfl rfl hR rfl ?_
      refine y_ld (x := iv (n : Int)) rfl rfl (fun d => rfl) ?_
      refine y_ic rfl rfl ?_
      refine y_add (z := ((n : Int) + 1)) rfl rfl rfl ?_
      refine y_pI (i := 0) rfl rfl rfl hX.1 rfl rfl ?_
      refine y_ld (x := .ref 115) rfl rfl (fun d => rfl) ?_
      refine y_gR (i := 3) rfl rfl rfl hR rfl ?_
      refine y_gR (i := 1) rfl rfl rfl hX.1 rfl ?_
      refine y_ld (x := iv (n : Int)) rfl rfl (fun d => rfl) ?_
      refine y_ld (x := iv (hr τ z p - 48)) rfl rfl (fun d => rfl) ?_
      refine y_ist (q := n) rfl rfl hX.2.1 (by omega) (by decide) (by omega) ?_
      refine y_ld (x := .ref 115) rfl rfl (fun d => rfl) ?_
      refine y_gR (i := 3) rfl rfl rfl hR rfl ?_
      refine y_gR (i := 2) rfl rfl rfl hX.1 rfl ?_
      refine y_ld (x := iv (n : Int)) rfl rfl (fun d => rfl) ?_
      refine y_ld (x := .ref 115) rfl rfl (fun d => rfl) ?_
      refine y_gR (i := 3) rfl rfl rfl hR rfl ?_
      refine y_gI (i := 6) (e := ((st).length : Int)) rfl rfl rfl hX.1 rfl (by rw [v_up_ne (by omega), v_up_ni (by omega)]; exact h5.2.2.2.2.1) ?_
      refine y_ist (q := n) rfl rfl hX.2.2.1 (by omega) (by decide) (by omega) ?_
      refine y_ic rfl rfl ?_
      refine y_rI rfl (by decide) ?_
      have ek : (if hr τ z p = 42 then (4 : Int) else hr τ z p - 48) = hr τ z p - 48 := if_neg (by omega)
      refine k1 (by omega) _ (CP_k ht h5) (CL_tr (CL_cf ht (CF_tr (CF_rf t V) f5)) (CL_k ht)) ?_ ?_
      · rw [ek, v_up_ne (by omega), v_up_eq]
      · rw [v_up_eq]
    · refine y_nv ?_
      refine y_st (lv' := [(2, iv (-1)), (0, .ref 115), (1, iv (n : Int))]) rfl rfl (fun d => rfl) ?_
      refine y_ld (x := iv (-1)) rfl rfl (fun d => rfl) ?_
      refine y_zge rfl rfl rfl (by decide) (fun g5 => absurd g5 (by decide)) (fun g5 => ?_)
      refine y_ic rfl rfl ?_
      refine y_rI rfl (by decide) ?_
      exact k2 (by omega)
end
