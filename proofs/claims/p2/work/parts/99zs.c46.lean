/-! shown, ways: the class -/
def S116l (lf : Value) : List Value := [.ref 117, .ref 118, .ref 119, .ref 120, .int 0, lf, .int 0, .int 0, .int 0, .ref 121]
/-- the shape but for the two cells of the search that change -/
def SQ2 (S S' : m_H) : Prop := (∀ k t vs, k ≠ 116 → k ≠ 119 → ce S k t vs → ce S' k t vs) ∧ (∀ t v, v_asg S t v → v_asg S' t v) ∧ S'.length = S.length
theorem SQ2_rf (S : m_H) : SQ2 S S := ⟨fun _ _ _ _ _ h => h, fun _ _ h => h, rfl⟩
theorem SQ2_tr {S S' S'' : m_H} (h : SQ2 S S') (h2 : SQ2 S' S'') : SQ2 S S'' := ⟨fun k t vs a b c => h2.1 k t vs a b (h.1 k t vs a b c), fun t v a => h2.2.1 t v (h.2.1 t v a), h2.2.2.trans h.2.2⟩
theorem SQ2_set {S : m_H} {q t : Nat} {vs vs' : List Value} (h : ce S q t vs) (hq : q = 116 ∨ q = 119) : SQ2 S (S.set q (t, vs')) := by
  refine ⟨fun k t2 us h1 h2 hc => ce_ne hc (by omega), fun t2 v hv => ?_, List.length_set⟩
  rcases hv with hv | ⟨x, ws, h1, h2⟩
  · exact Or.inl hv
  · by_cases hx : x = q
    · subst hx
      have e := h.2.symm.trans h2.2
      simp only [Option.some.injEq, Prod.mk.injEq] at e
      exact Or.inr ⟨x, vs', h1, by rw [← e.1]; exact ce_eq h⟩
    · exact Or.inr ⟨x, ws, h1, ce_ne h2 hx⟩
theorem ClF_2 {S S' : m_H} (h : ClF S) (hS : SQ2 S S') : ClF S' := by
  intro k t vs hk
  refine hS.1 k t vs (fun e => ?_) (fun e => ?_) (h k t vs hk)
  all_goals
    subst e
    unfold cl_at at hk
    rw [if_pos (by decide)] at hk
    cases hk
theorem MdS_2 {S S' : m_H} (h : MdS S) (hS : SQ2 S S') : MdS S' := by
  have e : ∀ k t vs, k ≠ 116 → k ≠ 119 → ce S k t vs → ce S' k t vs := hS.1
  obtain ⟨a0, a1, a2, a3, a4, a5, a6, a7, a8, a9, b0, b1, b2, b3, b4, b5, b6, b7, b8, b9, c0, c1, c2⟩ := h
  exact ⟨e _ _ _ (by decide) (by decide) a0, e _ _ _ (by decide) (by decide) a1, e _ _ _ (by decide) (by decide) a2, e _ _ _ (by decide) (by decide) a3, e _ _ _ (by decide) (by decide) a4, e _ _ _ (by decide) (by decide) a5, e _ _ _ (by decide) (by decide) a6, e _ _ _ (by decide) (by decide) a7, e _ _ _ (by decide) (by decide) a8, e _ _ _ (by decide) (by decide) a9, e _ _ _ (by decide) (by decide) b0, e _ _ _ (by decide) (by decide) b1, e _ _ _ (by decide) (by decide) b2, e _ _ _ (by decide) (by decide) b3, e _ _ _ (by decide) (by decide) b4, e _ _ _ (by decide) (by decide) b5, e _ _ _ (by decide) (by decide) b6, e _ _ _ (by decide) (by decide) b7, e _ _ _ (by decide) (by decide) b8, e _ _ _ (by decide) (by decide) b9, e _ _ _ (by decide) (by decide) c0, e _ _ _ (by decide) (by decide) c1, e _ _ _ (by decide) (by decide) c2⟩
theorem TxS_2 {S S' : m_H} {t : Nat} (ht : 193 ≤ t) (hx : TxS S t) (h : SQ2 S S') : TxS S' t :=
  ⟨h.1 _ _ _ (by omega) (by omega) hx.1, h.1 _ _ _ (by omega) (by omega) hx.2.1, h.1 _ _ _ (by omega) (by omega) hx.2.2.1, h.1 _ _ _ (by omega) (by omega) hx.2.2.2.1, h.1 _ _ _ (by omega) (by omega) hx.2.2.2.2.1, h.1 _ _ _ (by omega) (by omega) hx.2.2.2.2.2.1, h.1 _ _ _ (by omega) (by omega) hx.2.2.2.2.2.2⟩
def XsA (S : m_H) : Prop := ∃ xs, ce S 119 22 xs ∧ xs.length = 4 ∧ ∀ v ∈ xs, v_asg S 22 v
/-- the numbers but for those that a search leaves behind -/
def FrV (V V' : v_V) : Prop := ∀ k, k ≠ 116 → k ≠ 120 → k ≠ 121 → (k < 131 ∨ (154 ≤ k ∧ k < 158) ∨ 170 ≤ k) → V' k = V k
theorem FrV_rf (V : v_V) : FrV V V := fun _ _ _ _ _ => rfl
theorem FrV_tr {V V' V'' : v_V} (h : FrV V V') (h2 : FrV V' V'') : FrV V V'' := fun k a b c d => (h2 k a b c d).trans (h k a b c d)
theorem FrV_S {V V' : v_V} (h : FrS 0 V V') : FrV V V' := fun k _ _ c d => h k c (by omega)
theorem SgC_0 {V V' : v_V} (h : SgC V 0 0 4 (fun _ _ => 0) aw0) (e : FrV V V') {form : Int} {m : Nat} (hm : m ≤ 4) : SgC V' 0 form m (fun _ _ => 0) aw0 := by
  refine ⟨fun i hi p hp => ?_, fun hf => ?_⟩
  · rw [e _ (by omega) (by omega) (by omega) (by omega)]
    exact h.1 i (by omega) p hp
  · exact RWc_r (h.2 (by decide)) ⟨by rw [e _ (by omega) (by omega) (by omega) (by omega)], by rw [e _ (by omega) (by omega) (by omega) (by omega)], by rw [e _ (by omega) (by omega) (by omega) (by omega)]⟩ (e _ (by omega) (by omega) (by omega) (by omega)) (e _ (by omega) (by omega) (by omega) (by omega)) (e _ (by omega) (by omega) (by omega) (by omega))
theorem RS_2 {S S' : m_H} {V V' : v_V} {B : Nat} {σ : Nat → Int} {tl : Nat → List p_Li} (h : RS S V B σ tl) (hB : B = 1 ∨ B = 58) (hS : SQ2 S S') (hV : FrV V V') : RS S' V' B σ tl := by
  have hhi : ∀ k, 193 ≤ k → V' k = V k := fun k hk => hV k (by omega) (by omega) (by omega) (by omega)
  have hp : ∀ (vs : List Value) (N q : Nat) (lim : Int), PkA S V vs N lim σ q → PkA S' V' vs N lim σ q := by
    intro vs N q lim ⟨a1, a2, a3⟩
    refine ⟨a1, fun v hv => hS.2.1 _ _ (a2 v hv), fun i hi => ?_⟩
    obtain ⟨pk, b1, b2, b3⟩ := a3 i hi
    have b4 := PkS_r b3 (hhi pk b2)
    exact ⟨pk, b1, b2, hS.1 _ _ _ (by omega) (by omega) b4.1, b4.2⟩
  obtain ⟨h1, ⟨ta, a1, a2, a3, a4⟩, ⟨wa, w1, w2⟩, ⟨la, l1, l2⟩⟩ := h
  refine ⟨RN_fr h1 (fun k x y => hV k (by omega) (by omega) (by omega) (by omega)), ⟨ta, hS.1 _ _ _ (by omega) (by omega) a1, a2, fun v hv => hS.2.1 _ _ (a3 v hv), fun i hi => ?_⟩, ⟨wa, hS.1 _ _ _ (by omega) (by omega) w1, hp _ _ _ _ w2⟩, ⟨la, hS.1 _ _ _ (by omega) (by omega) l1, hp _ _ _ _ l2⟩⟩
  obtain ⟨t, b1, b2, b3, b4⟩ := a4 i hi
  exact ⟨t, b1, b2, TxS_2 b2 b3 hS, CT_hi hhi b2 b4⟩
section
variable {X : Nat → List Int32} {u w : Nat} {S : m_H} {V : v_V} {K : v_K}
set_option maxRecDepth 100000 in
set_option maxHeartbeats 4000000 in
theorem cs_begin (hC : ClF S) {lf : Value} (h116 : ce S 116 4 (S116l lf)) (hX : XsA S) {σ : Nat → Int} {tl : Nat → List p_Li} (hRS : RS S V 1 σ tl) {al : Nat} (hal : σ 5 = (al : Int)) {form N : Int} {ts : Nat → List p_Li} (k : ∀ S2 V2, SrC S2 V2 form N al 0 ts σ → XsA S2 → SQ2 S S2 → FrV V V2 → ClF S2 → K u w none S2 V2) : y_R X 1 32 u w [.ref 116, .ref 7, iv (al : Int), iv form, iv N] S V K := by
  refine y_ent (lv' := [(0, .ref 116), (1, .ref 7), (2, iv (al : Int)), (3, iv form), (4, iv N)]) (Nat.le_of_ble_eq_true rfl) rfl ?_
  refine y_ld (x := .ref 116) rfl rfl (fun d => rfl) ?_
  refine y_ld (x := .ref 7) rfl rfl (fun d => rfl) ?_
  refine y_pR (i := 5) rfl rfl rfl h116 (by simp [S116l]) ⟨rfl, fun x hx => by cases hx⟩ ?_
  have h116b : ce (S.set 116 (4, S116l (.ref 7))) 116 4 (S116l (.ref 7)) := ce_eq h116
  refine y_S (S' := S.set 116 (4, S116l (.ref 7))) rfl ?_
  refine y_ld (x := .ref 116) rfl rfl (fun d => rfl) ?_
  refine y_ld (x := iv (al : Int)) rfl rfl (fun d => rfl) ?_
  refine y_pI (i := 6) rfl rfl rfl h116b rfl rfl ?_
  refine y_ld (x := .ref 116) rfl rfl (fun d => rfl) ?_
  refine y_ld (x := iv form) rfl rfl (fun d => rfl) ?_
  refine y_pI (i := 7) rfl rfl rfl h116b rfl rfl ?_
  refine y_ld (x := .ref 116) rfl rfl (fun d => rfl) ?_
  refine y_ld (x := iv N) rfl rfl (fun d => rfl) ?_
  refine y_pI (i := 8) rfl rfl rfl h116b rfl rfl ?_
  refine y_ld (x := .ref 116) rfl rfl (fun d => rfl) ?_
  refine y_ic rfl rfl ?_
  refine y_pI (i := 4) rfl rfl rfl h116b rfl rfl ?_
  refine y_ret rfl (fun d => rfl) ?_
  have hq := SQ2_set (vs' := S116l (.ref 7)) h116 (Or.inl rfl)
  obtain ⟨xs, x1, x2, x3⟩ := hX
  obtain ⟨la, y1, y2, y3, y4⟩ := hRS.2.2.2
  have x1b : ce (S.set 116 (4, S116l (.ref 7))) 119 22 xs := ce_ne x1 (by decide)
  have y1b : ce (S.set 116 (4, S116l (.ref 7))) 7 24 la := ce_ne y1 (by decide)
  refine k _ _ ⟨h116b, ⟨rfl, rfl, rfl, rfl⟩, ⟨xs, x1b, x2, fun i hi => absurd hi (by omega)⟩, la, y1b, y2, fun q hq2 => ?_⟩ ⟨xs, x1b, x2, fun v hv => hq.2.1 _ _ (x3 v hv)⟩ hq (fun k h1 _ _ _ => by rw [v_up_ne h1, v_up_ne h1, v_up_ne h1, v_up_ne h1]) (ClF_2 hC hq)
  obtain ⟨pk, p1, p2, p3⟩ := y4 q (by omega)
  have p4 : PkS S (v_up (v_up (v_up (v_up V 116 6 al) 116 7 form) 116 8 N) 116 4 0) pk _ _ _ _ := PkS_r p3 (by rw [v_up_ne (by omega), v_up_ne (by omega), v_up_ne (by omega), v_up_ne (by omega)])
  exact ⟨pk, p1, p2, ce_ne p4.1 (by omega), p4.2⟩
set_option maxRecDepth 100000 in
set_option maxHeartbeats 4000000 in
theorem cs_add (hC : ClF S) {form N : Int} {al m : Nat} {ts ts2 : Nat → List p_Li} {σ : Nat → Int} (hSr : SrC S V form N al m ts σ) (hX : XsA S) (hm : m < 4) {t : Nat} {l : List p_Li} (ht9 : 193 ≤ t) (ht : TxS S t) (hct : CT V t l) (hts1 : ts2 m = l) (hts2 : ∀ i, i < m → ts2 i = ts i) {p : Int} (k : ∀ S2 V2, SrC S2 V2 form N al (m + 1) ts2 σ → XsA S2 → SQ2 S S2 → FrV V V2 → ClF S2 → (V2 120 m = p ∧ ∀ q, q ≠ m → V2 120 q = V 120 q) → K u w none S2 V2) : y_R X 1 33 u w [.ref 116, .ref t, iv p] S V K := by
  obtain ⟨xs, x1, x2, x3⟩ := hX
  refine y_ent (lv' := [(0, .ref 116), (1, .ref t), (2, iv p)]) (Nat.le_of_ble_eq_true rfl) rfl ?_
  refine y_ld (x := .ref 116) rfl rfl (fun d => rfl) ?_
  refine y_gI (i := 4) (e := (m : Int)) rfl rfl rfl hSr.1 rfl hSr.2.1.1 ?_
  refine y_ic rfl rfl ?_
  refine y_jge rfl rfl rfl (by omega) (fun g1 => ?_) (fun g1 => ?_)
  · refine y_ret rfl (fun d => rfl) ?_
    exact absurd hm (by omega)
  · refine y_ld (x := .ref t) rfl rfl (fun d => rfl) ?_
    refine y_in (pc' := 13) rfl rfl (fun d => rfl) ?_
    refine y_ld (x := .ref 116) rfl rfl (fun d => rfl) ?_
    refine y_gR (i := 2) rfl rfl rfl hSr.1 rfl ?_
    refine y_ld (x := .ref 116) rfl rfl (fun d => rfl) ?_
    refine y_gI (i := 4) (e := (m : Int)) rfl rfl rfl hSr.1 rfl hSr.2.1.1 ?_
    refine y_ld (x := .ref t) rfl rfl (fun d => rfl) ?_
    refine y_rst (i := m) rfl rfl x1 (by decide) (by omega) (by omega) (by omega) (Or.inr ⟨t, _, rfl, ht.1⟩) ?_
    have hq := SQ2_set (vs' := xs.set m (.ref t)) x1 (Or.inr rfl)
    have hC2 := ClF_2 hC hq
    have hS1 : ce (S.set 119 (22, xs.set m (.ref t))) 116 4 (S116l (.ref 7)) := ce_ne hSr.1 (by decide)
    refine y_ld (x := .ref 116) rfl rfl (fun d => rfl) ?_
    refine y_gR (i := 3) rfl rfl rfl hS1 rfl ?_
    refine y_ld (x := .ref 116) rfl rfl (fun d => rfl) ?_
    refine y_gI (i := 4) (e := (m : Int)) rfl rfl rfl hS1 rfl hSr.2.1.1 ?_
    refine y_ld (x := iv p) rfl rfl (fun d => rfl) ?_
    refine y_ist (q := m) rfl rfl (cl_ia hC2 (k := 120) (N := 4) rfl) (by omega) (by decide) (by omega) ?_
    refine y_ld (x := .ref 116) rfl rfl (fun d => rfl) ?_
    refine y_in rfl rfl (fun d => rfl) ?_
    refine y_gI (i := 4) (e := (m : Int)) rfl rfl rfl hS1 rfl (by rw [v_up_ne (by decide)]; exact hSr.2.1.1) ?_
    refine y_ic rfl rfl ?_
    refine y_add (z := ((m : Int) + 1)) rfl rfl rfl ?_
    refine y_pI (i := 4) rfl rfl rfl hS1 rfl rfl ?_
    refine y_ret rfl (fun d => rfl) ?_
    obtain ⟨s1, ⟨s2, s3, s4, s5⟩, ⟨zs, z1, z2, z3⟩, la, y1, y2, y3⟩ := hSr
    have ezs : zs = xs := by
      have e := z1.2.symm.trans x1.2
      simp only [Option.some.injEq, Prod.mk.injEq] at e
      exact e.2
    subst ezs
    have hhi : ∀ k, 193 ≤ k → (v_up (v_up V 120 m p) 116 4 ((m : Int) + 1)) k = V k := fun k hk => by rw [v_up_ne (by omega), v_up_ne (by omega)]
    have e116 : ∀ i, i ≠ 4 → (v_up (v_up V 120 m p) 116 4 ((m : Int) + 1)) 116 i = V 116 i := fun i hi => by rw [v_up_ni hi, v_up_ne (by decide)]
    refine k _ _ ⟨hS1, ⟨by rw [v_up_eq]; omega, (e116 6 (by decide)).trans s3, (e116 7 (by decide)).trans s4, (e116 8 (by decide)).trans s5⟩, ⟨zs.set m (.ref t), ce_eq x1, by rw [List.length_set]; exact x2, fun i hi => ?_⟩, la, ce_ne y1 (by decide), y2, fun q hq2 => ?_⟩ ⟨zs.set m (.ref t), ce_eq x1, by rw [List.length_set]; exact x2, fun v hv => ?_⟩ hq (fun k h1 h2 _ _ => by rw [v_up_ne h1, v_up_ne h2]) hC2 ⟨by rw [v_up_ne (by decide), v_up_eq], fun q hq5 => by rw [v_up_ne (by decide), v_up_ni hq5]⟩
    · rw [m_nth_set]
      by_cases hi2 : i = m
      · subst hi2
        refine ⟨t, ?_, ht9, TxS_2 ht9 ht hq, CT_hi hhi ht9 (by rw [hts1]; exact hct)⟩
        rw [if_pos rfl, m_nth_eq, List.getElem?_eq_getElem (by omega)]
        rfl
      · obtain ⟨t2, a1, a2, a3, a4⟩ := z3 i (by omega)
        rw [if_neg hi2]
        exact ⟨t2, a1, a2, TxS_2 a2 a3 hq, CT_hi hhi a2 (by rw [hts2 i (by omega)]; exact a4)⟩
    · obtain ⟨pk, p1, p2, p3⟩ := y3 q hq2
      have p4 := PkS_r p3 (hhi pk p2)
      exact ⟨pk, p1, p2, ce_ne p4.1 (by omega), p4.2⟩
    · rcases List.mem_or_eq_of_mem_set hv with h7 | h7
      · exact hq.2.1 _ _ (x3 v h7)
      · rw [h7]; exact Or.inr ⟨t, _, rfl, (TxS_2 ht9 ht hq).1⟩
end
