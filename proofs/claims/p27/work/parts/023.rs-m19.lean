section
/-! WHAT HOLDS BETWEEN CALLS: σ is the reference's row of numbers; tl the TEXTS as they were read -/
def TO (l : List p_Li) : Prop := lsO l ∧ (∀ x ∈ l, lnO x) ∧ l.length ≤ 8 ∧ (encP 0 l).length ≤ 200 ∧ (encPc l).length ≤ 160
def SO (cnt : Nat) (σ : Nat → Int) : Prop :=
  ((0 ≤ σ 0 ∧ σ 0 ≤ 8) ∧ (0 ≤ σ 1 ∧ σ 1 ≤ 8) ∧ (0 ≤ σ 2 ∧ σ 2 ≤ 6) ∧ (0 ≤ σ 3 ∧ σ 3 ≤ 20) ∧ (0 ≤ σ 4 ∧ σ 4 ≤ 65535) ∧ (0 ≤ σ 5 ∧ σ 5 ≤ 5) ∧ (0 ≤ σ 6 ∧ σ 6 ≤ 160)) ∧
  (∀ i : Nat, i < 160 → 0 ≤ σ (10 + i) ∧ σ (10 + i) ≤ 255) ∧
  (∀ b : Nat, b < 8 → (0 ≤ σ (170 + b) ∧ σ (170 + b) ≤ 6) ∧ (0 ≤ σ (178 + b) ∧ σ (178 + b) ≤ 8 ∧ ((b : Int) < σ 1 → σ (178 + b) < σ 0)) ∧ (-5 ≤ σ (186 + b) ∧ σ (186 + b) ≤ 8) ∧ (0 ≤ σ (872 + b) ∧ σ (872 + b) ≤ cnt) ∧ muO (zm σ (200 + 84 * b)) ∧ muO (zm σ (880 + 84 * b))) ∧
  (∀ b : Nat, b < 8 → ∀ t : Nat, t < 16 → 0 ≤ σ (1552 + 16 * b + t) ∧ σ (1552 + 16 * b + t) ≤ 7 ∧ ((b : Int) < σ 1 → σ (1552 + 16 * b + t) < σ 1)) ∧
  (∀ i : Nat, i < 6 → 0 ≤ σ (1680 + i) ∧ σ (1680 + i) ≤ 7 ∧ ((i : Int) < σ 2 → σ (1680 + i) < σ 1)) ∧
  (∀ i : Nat, (i : Int) < σ 3 → pkO (σ (1690 + 4 * i)) (σ (1690 + 4 * i + 1)) (σ (1690 + 4 * i + 2)) (σ (1690 + 4 * i + 3))) ∧
  (∀ i : Nat, (i : Int) < σ 5 → pkO (σ (1770 + 4 * i)) (σ (1770 + 4 * i + 1)) (σ (1770 + 4 * i + 2)) (σ (1770 + 4 * i + 3)))
/-- a BOX of the class at a -/
def BxN (V : v_V) (a b : Nat) (σ : Nat → Int) : Prop := ((b : Int) < σ 1 → V a 0 = (b : Int)) ∧ V a 1 = σ (170 + b) ∧ V a 2 = σ (178 + b) ∧ V a 3 = σ (186 + b) ∧ V a 4 = σ (872 + b) ∧ (∀ t : Nat, t < 16 → V (a + 1) t = σ (1552 + 16 * b + t)) ∧ (∀ p : Nat, p < 84 → V (a + 3) p = σ (200 + 84 * b + p)) ∧ (∀ p : Nat, p < 84 → V (a + 5) p = σ (880 + 84 * b + p))
/-- a state of the class at B: its numbers -/
def RN (V : v_V) (B : Nat) (σ : Nat → Int) : Prop :=
  (V B 1 = σ 6 ∧ V B 3 = σ 0 ∧ V B 5 = σ 1 ∧ V B 7 = σ 2 ∧ V B 9 = σ 3 ∧ V B 10 = σ 4 ∧ V B 12 = σ 5) ∧
  (∀ i : Nat, i < 160 → V (B + 1) i = σ (10 + i)) ∧ (∀ i : Nat, i < 6 → V (B + 4) i = σ (1680 + i)) ∧ (∀ b : Nat, b < 8 → BxN V (B + 9 + 6 * b) b σ)
def RT (S : m_H) (V : v_V) (B : Nat) (σ : Nat → Int) (tl : Nat → List p_Li) : Prop := ∃ ta, ce S (B + 2) 22 ta ∧ ta.length = 8 ∧ (∀ v ∈ ta, v_asg S 22 v) ∧ ∀ i : Nat, (i : Int) < σ 0 → ∃ t : Nat, m_nth ta i = some (.ref t) ∧ 193 ≤ t ∧ TxS S t ∧ CT V t (tl i)
def PkA (S : m_H) (V : v_V) (vs : List Value) (N : Nat) (lim : Int) (σ : Nat → Int) (q : Nat) : Prop := vs.length = N ∧ (∀ v ∈ vs, v_asg S 24 v) ∧ ∀ i : Nat, (i : Int) < lim → ∃ pk : Nat, m_nth vs i = some (.ref pk) ∧ 193 ≤ pk ∧ PkS S V pk (σ (q + 4 * i)) (σ (q + 4 * i + 1)) (σ (q + 4 * i + 2)) (σ (q + 4 * i + 3))
def RW (S : m_H) (V : v_V) (B : Nat) (σ : Nat → Int) : Prop := ∃ wa, ce S (B + 5) 24 wa ∧ PkA S V wa 20 (σ 3) σ 1690
def RA (S : m_H) (V : v_V) (B : Nat) (σ : Nat → Int) : Prop := ∃ la, ce S (B + 6) 24 la ∧ PkA S V la 5 (σ 5) σ 1770
def RS (S : m_H) (V : v_V) (B : Nat) (σ : Nat → Int) (tl : Nat → List p_Li) : Prop := RN V B σ ∧ RT S V B σ tl ∧ RW S V B σ ∧ RA S V B σ
/-! a packet worked by a BOX, SENT, LET GO: on the row of numbers -/
def sgW (tl : Nat → List p_Li) (σ : Nat → Int) (b : Nat) (t h k n : Int) : Int × (Nat → Int) :=
  ((eW t h k n (tl (σ (178 + b)).toNat) (zm σ (200 + 84 * b))).1, v_uf (zi σ (200 + 84 * b) (eW t h k n (tl (σ (178 + b)).toNat) (zm σ (200 + 84 * b))).2) (186 + b) (eL (zm σ (200 + 84 * b)) t h k n 0 (tl (σ (178 + b)).toNat)))
def wBox (σ : Nat → Int) (q : Nat) (t : Int) : Nat := (σ (1552 + 16 * (σ (1680 + q)).toNat + t.toNat)).toNat
def sgS (tl : Nat → List p_Li) (t h k n : Int) : Nat → Nat → (Nat → Int) → Int × (Nat → Int)
  | 0, q, σ => (10 * (q : Int) + 1, σ)
  | m + 1, q, σ => if (sgW tl σ (wBox σ q t) t h k n).1 = 1 then sgS tl t h k n m (q + 1) (sgW tl σ (wBox σ q t) t h k n).2
    else (10 * (q : Int) + (sgW tl σ (wBox σ q t) t h k n).1, (sgW tl σ (wBox σ q t) t h k n).2)
/-- the packets that wait, from the i-th on -/
def rlS (tl : Nat → List p_Li) : Nat → Nat → (Nat → Int) → Nat → Int
  | 0, _, σ => σ
  | m + 1, i, σ => rlS tl m (i + 1) (sgS tl (σ (1690 + 4 * i)) (σ (1690 + 4 * i + 1)) (σ (1690 + 4 * i + 2)) (σ (1690 + 4 * i + 3)) (σ 2).toNat 0 σ).2
theorem sgW_fr {tl : Nat → List p_Li} {σ : Nat → Int} {b : Nat} {t h k n : Int} {j : Nat} (h1 : j < 200 + 84 * b ∨ 284 + 84 * b ≤ j) (h2 : j ≠ 186 + b) : (sgW tl σ b t h k n).2 j = σ j := by
  unfold sgW
  simp only
  rw [v_uf_ne h2, zi_out (by omega)]
theorem sgW_lt {tl : Nat → List p_Li} {σ : Nat → Int} {b : Nat} {t h k n : Int} {j : Nat} (h1 : j < 186 ∨ (194 ≤ j ∧ j < 200) ∨ 872 ≤ j) (hb : b < 8) : (sgW tl σ b t h k n).2 j = σ j := sgW_fr (by omega) (by omega)
theorem sgW_SO {cnt : Nat} {tl : Nat → List p_Li} {σ : Nat → Int} {b : Nat} {t h k n : Int} (hs : SO cnt σ) (hb : b < 8) (hl : (tl (σ (178 + b)).toNat).length ≤ 8) : SO cnt (sgW tl σ b t h k n).2 ∧ 0 ≤ (sgW tl σ b t h k n).1 ∧ (sgW tl σ b t h k n).1 ≤ 2 := by
  obtain ⟨a1, a2, a3, a4, a5, a6, a7⟩ := hs
  have e : ∀ j, j < 186 ∨ (194 ≤ j ∧ j < 200) ∨ 872 ≤ j → (sgW tl σ b t h k n).2 j = σ j := fun j hj => sgW_lt hj hb
  have hw := eW_rg (t := t) (h := h) (k := k) (n := n) (tl (σ (178 + b)).toNat) _ (a3 b hb).2.2.2.2.1
  refine ⟨⟨?_, ?_, ?_, ?_, ?_, ?_, ?_⟩, hw.2⟩
  · rw [e 0 (by omega), e 1 (by omega), e 2 (by omega), e 3 (by omega), e 4 (by omega), e 5 (by omega), e 6 (by omega)]
    exact a1
  · intro i hi
    rw [e _ (by omega)]
    exact a2 i hi
  · intro c hc
    obtain ⟨c1, c2, c3, c4, c5, c6⟩ := a3 c hc
    refine ⟨by rw [e _ (by omega)]; exact c1, by rw [e _ (by omega), e 1 (by omega), e 0 (by omega)]; exact c2, ?_, by rw [e _ (by omega)]; exact c4, ?_, ?_⟩
    · by_cases hcb : c = b
      · subst hcb
        have e3 : (sgW tl σ c t h k n).2 (186 + c) = eL (zm σ (200 + 84 * c)) t h k n 0 (tl (σ (178 + c)).toNat) := v_uf_eq _ _ _
        rw [e3]
        have := eL_rg (zm σ (200 + 84 * c)) t h k n (tl (σ (178 + c)).toNat) 0
        omega
      · rw [sgW_fr (by omega) (by omega)]
        exact c3
    · intro p hp
      show -2147483648 ≤ (sgW tl σ b t h k n).2 (200 + 84 * c + p) ∧ (sgW tl σ b t h k n).2 (200 + 84 * c + p) < 2147483648
      by_cases hcb : c = b
      · subst hcb
        have e3 : (sgW tl σ c t h k n).2 (200 + 84 * c + p) = (eW t h k n (tl (σ (178 + c)).toNat) (zm σ (200 + 84 * c))).2 p := (v_uf_ne (by omega)).trans (zm_zi hp)
        rw [e3]
        exact hw.1 p hp
      · rw [sgW_fr (by omega) (by omega)]
        exact c5 p hp
    · intro p hp
      show -2147483648 ≤ (sgW tl σ b t h k n).2 (880 + 84 * c + p) ∧ (sgW tl σ b t h k n).2 (880 + 84 * c + p) < 2147483648
      rw [e _ (by omega)]
      exact c6 p hp
  · intro c hc t ht
    rw [e _ (by omega), e 1 (by omega)]
    exact a4 c hc t ht
  · intro i hi
    rw [e _ (by omega), e 1 (by omega), e 2 (by omega)]
    exact a5 i hi
  · intro i hi
    rw [e 3 (by omega)] at hi
    rw [e _ (by omega), e _ (by omega), e _ (by omega), e _ (by omega)]
    exact a6 i hi
  · intro i hi
    rw [e 5 (by omega)] at hi
    rw [e _ (by omega), e _ (by omega), e _ (by omega), e _ (by omega)]
    exact a7 i hi
theorem wBox_lt {cnt : Nat} {σ : Nat → Int} {q : Nat} {t : Int} (hs : SO cnt σ) (hq : (q : Int) < σ 2) (ht : 0 ≤ t ∧ t < 16) : σ (1680 + q) = ((σ (1680 + q)).toNat : Int) ∧ σ (1680 + q) < σ 1 ∧ wBox σ q t < 8 ∧ ((wBox σ q t : Nat) : Int) < σ 1 ∧ σ (1552 + 16 * (σ (1680 + q)).toNat + t.toNat) = ((wBox σ q t : Nat) : Int) := by
  obtain ⟨a1, a2, a3, a4, a5, a6, a7⟩ := hs
  have h5 := a5 q (by omega)
  have h4 := a4 (σ (1680 + q)).toNat (by omega) t.toNat (by omega)
  have h6 := h5.2.2 hq
  have h7 := h4.2.2 (by omega)
  unfold wBox
  refine ⟨by omega, h6, by omega, by omega, by omega⟩
/-- all that is sent keeps what is asked of the numbers, and the numbers that are not of the MEMORIES and LATEST -/
theorem sgS_SO {cnt : Nat} {tl : Nat → List p_Li} {t h k n : Int} (ht : 0 ≤ t ∧ t < 16) : ∀ (m q : Nat) (σ : Nat → Int), SO cnt σ → (∀ i : Nat, (i : Int) < σ 0 → TO (tl i)) → ((q + m : Nat) : Int) ≤ σ 2 → SO cnt (sgS tl t h k n m q σ).2 ∧ (∀ j, j < 186 ∨ (194 ≤ j ∧ j < 200) ∨ 872 ≤ j → (sgS tl t h k n m q σ).2 j = σ j) ∧ 0 ≤ (sgS tl t h k n m q σ).1 ∧ (sgS tl t h k n m q σ).1 ≤ 10 * (q + m) + 2
  | 0, q, σ, hs, hT, hq => ⟨hs, fun _ _ => rfl, by show 0 ≤ 10 * (q : Int) + 1; omega, by show 10 * (q : Int) + 1 ≤ _; omega⟩
  | m + 1, q, σ, hs, hT, hq => by
    obtain ⟨w1, w2, w3, w4, w5⟩ := wBox_lt hs (q := q) (by omega) ht
    have h3 := (hs.2.2.1 _ w3).2.1
    have hl := hT (σ (178 + wBox σ q t)).toNat (by have := h3.2.2 w4; omega)
    obtain ⟨k1, k2, k3⟩ := sgW_SO (t := t) (h := h) (k := k) (n := n) hs w3 hl.2.2.1
    unfold sgS
    split
    · have e2 := sgW_lt (tl := tl) (σ := σ) (t := t) (h := h) (k := k) (n := n) (j := 2) (by omega) w3
      have e0 := sgW_lt (tl := tl) (σ := σ) (t := t) (h := h) (k := k) (n := n) (j := 0) (by omega) w3
      have ih := sgS_SO (cnt := cnt) (tl := tl) (h := h) (k := k) (n := n) ht m (q + 1) _ k1 (by rw [e0]; exact hT) (by rw [e2]; omega)
      refine ⟨ih.1, fun j hj => (ih.2.1 j hj).trans (sgW_lt hj w3), ih.2.2.1, by have := ih.2.2.2; omega⟩
    · exact ⟨k1, fun j hj => sgW_lt hj w3, by show 0 ≤ 10 * (q : Int) + _; omega, by show 10 * (q : Int) + _ ≤ _; omega⟩
end
section
/-! frames: what a change of shape or numbers leaves of a state -/
/-- but for the cell q all stays as it was in the shape -/
def SQ (q : Nat) (S S' : m_H) : Prop := (∀ k t vs, k ≠ q → ce S k t vs → ce S' k t vs) ∧ ∀ t v, v_asg S t v → v_asg S' t v
theorem SQ_rf (q : Nat) (S : m_H) : SQ q S S := ⟨fun _ _ _ _ h => h, fun _ _ h => h⟩
theorem SQ_app (q : Nat) (S : m_H) (c : Nat × List Value) : SQ q S (S ++ [c]) := by
  refine ⟨fun k t vs _ h => ce_app h, fun t v h => ?_⟩
  rcases h with h | ⟨x, ws, h1, h2⟩
  · exact Or.inl h
  · exact Or.inr ⟨x, ws, h1, ce_app h2⟩
theorem SQ_tr {q : Nat} {S S' S'' : m_H} (h : SQ q S S') (h2 : SQ q S' S'') : SQ q S S'' := ⟨fun k t vs hk hc => h2.1 k t vs hk (h.1 k t vs hk hc), fun t v hv => h2.2 t v (h.2 t v hv)⟩
theorem SQ_set {S : m_H} {q t : Nat} {vs vs' : List Value} (h : ce S q t vs) (ht : 22 ≤ t ∧ t ≤ 26) : SQ q S (S.set q (t, vs')) := by
  refine ⟨fun k t2 us hk hc => ce_ne hc hk, fun t2 v hv => ?_⟩
  rcases hv with hv | ⟨x, ws, h1, h2⟩
  · exact Or.inl hv
  · by_cases hx : x = q
    · subst hx
      have e := h.2.symm.trans h2.2
      simp only [Option.some.injEq, Prod.mk.injEq] at e
      have h5 : t2 = 22 ∨ t2 = 23 ∨ t2 = 24 ∨ t2 = 25 ∨ t2 = 26 ∨ m_cmp t2 = 99 := by
        unfold m_cmp
        split <;> simp
      rcases h5 with rfl | rfl | rfl | rfl | rfl | h5
      · exact absurd (show t = 6 from e.1) (by omega)
      · exact absurd (show t = 0 from e.1) (by omega)
      · exact absurd (show t = 2 from e.1) (by omega)
      · exact absurd (show t = 1 from e.1) (by omega)
      · exact absurd (show t = 8 from e.1) (by omega)
      · rw [h5] at e
        omega
    · exact Or.inr ⟨x, ws, h1, ce_ne h2 hx⟩
theorem TxS_q {q : Nat} {S S' : m_H} {t : Nat} (h : SQ q S S') (hq : q < 193) (ht : 193 ≤ t) (hx : TxS S t) : TxS S' t :=
  ⟨h.1 _ _ _ (by omega) hx.1, h.1 _ _ _ (by omega) hx.2.1, h.1 _ _ _ (by omega) hx.2.2.1, h.1 _ _ _ (by omega) hx.2.2.2.1, h.1 _ _ _ (by omega) hx.2.2.2.2.1, h.1 _ _ _ (by omega) hx.2.2.2.2.2.1, h.1 _ _ _ (by omega) hx.2.2.2.2.2.2⟩
theorem RT_fr {S S' : m_H} {V V' : v_V} {B q : Nat} {σ σ' : Nat → Int} {tl : Nat → List p_Li} (h : RT S V B σ tl) (hS : SQ q S S') (hq : q < 193 ∧ q ≠ B + 2) (hV : ∀ i t : Nat, (i : Int) < σ 0 → 193 ≤ t → TxS S t → CT V t (tl i) → CT V' t (tl i)) (h0 : σ' 0 ≤ σ 0) : RT S' V' B σ' tl := by
  obtain ⟨ta, a1, a2, a3, a4⟩ := h
  refine ⟨ta, hS.1 _ _ _ (by omega) a1, a2, fun v hv => hS.2 _ _ (a3 v hv), fun i hi => ?_⟩
  obtain ⟨t, b1, b2, b3, b4⟩ := a4 i (by omega)
  exact ⟨t, b1, b2, TxS_q hS hq.1 b2 b3, hV i t (by omega) b2 b3 b4⟩
theorem CT_hi {V V' : v_V} (hV : ∀ k, 193 ≤ k → V' k = V k) {t : Nat} {l : List p_Li} (ht : 193 ≤ t) (h : CT V t l) : CT V' t l := CT_r h (fun i _ => hV _ (by omega))
theorem PkA_fr {S S' : m_H} {V V' : v_V} {vs : List Value} {N q c : Nat} {lim lim' : Int} {σ σ' : Nat → Int} (h : PkA S V vs N lim σ q) (hS : SQ c S S') (hc : c < 193) (hV : ∀ k t h' y n, 193 ≤ k → PkS S V k t h' y n → V' k = V k) (hl : lim' ≤ lim) (hσ : ∀ j : Nat, (j : Int) < lim → ∀ i, i < 4 → σ' (q + 4 * j + i) = σ (q + 4 * j + i)) : PkA S' V' vs N lim' σ' q := by
  obtain ⟨a1, a2, a3⟩ := h
  refine ⟨a1, fun v hv => hS.2 _ _ (a2 v hv), fun i hi => ?_⟩
  obtain ⟨pk, b1, b2, b3⟩ := a3 i (by omega)
  have e := hσ i (by omega)
  have e0 := e 0 (by decide)
  rw [Nat.add_zero] at e0
  refine ⟨pk, b1, b2, ?_⟩
  rw [e0, e 1 (by decide), e 2 (by decide), e 3 (by decide)]
  have b4 := PkS_r b3 (hV pk _ _ _ _ b2 b3)
  exact ⟨hS.1 _ _ _ (by omega) b4.1, b4.2⟩
theorem RW_fr {S S' : m_H} {V V' : v_V} {B c : Nat} {σ σ' : Nat → Int} (h : RW S V B σ) (hS : SQ c S S') (hc : c < 193 ∧ c ≠ B + 5) (hV : ∀ k t h' y n, 193 ≤ k → PkS S V k t h' y n → V' k = V k) (h3 : σ' 3 ≤ σ 3) (hσ : ∀ j : Nat, (j : Int) < σ 3 → ∀ i, i < 4 → σ' (1690 + 4 * j + i) = σ (1690 + 4 * j + i)) : RW S' V' B σ' := by
  obtain ⟨wa, h1, h2⟩ := h
  exact ⟨wa, hS.1 _ _ _ (by omega) h1, PkA_fr h2 hS hc.1 hV h3 hσ⟩
theorem RA_fr {S S' : m_H} {V V' : v_V} {B c : Nat} {σ σ' : Nat → Int} (h : RA S V B σ) (hS : SQ c S S') (hc : c < 193 ∧ c ≠ B + 6) (hV : ∀ k t h' y n, 193 ≤ k → PkS S V k t h' y n → V' k = V k) (h3 : σ' 5 ≤ σ 5) (hσ : ∀ j : Nat, (j : Int) < σ 5 → ∀ i, i < 4 → σ' (1770 + 4 * j + i) = σ (1770 + 4 * j + i)) : RA S' V' B σ' := by
  obtain ⟨wa, h1, h2⟩ := h
  exact ⟨wa, hS.1 _ _ _ (by omega) h1, PkA_fr h2 hS hc.1 hV h3 hσ⟩
/-- the numbers of a state, told by other rows that are the same there -/
theorem RN_fr {V V' : v_V} {B : Nat} {σ : Nat → Int} (h : RN V B σ) (hV : ∀ k, B ≤ k → k < B + 57 → V' k = V k) : RN V' B σ := by
  obtain ⟨h1, h2, h3, h4⟩ := h
  refine ⟨by rw [hV B (by omega) (by omega)]; exact h1, by rw [hV (B + 1) (by omega) (by omega)]; exact h2, by rw [hV (B + 4) (by omega) (by omega)]; exact h3, fun b hb => ?_⟩
  have h5 := h4 b hb
  unfold BxN at *
  rw [hV (B + 9 + 6 * b) (by omega) (by omega), hV (B + 9 + 6 * b + 1) (by omega) (by omega), hV (B + 9 + 6 * b + 3) (by omega) (by omega), hV (B + 9 + 6 * b + 5) (by omega) (by omega)]
  exact h5
theorem RS_fr {S S' : m_H} {V V' : v_V} {B c : Nat} {σ : Nat → Int} {tl : Nat → List p_Li} (h : RS S V B σ tl) (hB : B = 1 ∨ B = 58) (hS : SQ c S S') (hc : c < 193 ∧ c ≠ B + 2 ∧ c ≠ B + 5 ∧ c ≠ B + 6) (hV : ∀ k, B ≤ k → k < B + 57 → V' k = V k) (hV2 : ∀ k, 193 ≤ k → V' k = V k) : RS S' V' B σ tl :=
  ⟨RN_fr h.1 hV, RT_fr h.2.1 hS ⟨hc.1, hc.2.1⟩ (fun i t _ ht _ hct => CT_hi hV2 ht hct) (Int.le_refl _), RW_fr h.2.2.1 hS ⟨hc.1, hc.2.2.1⟩ (fun k _ _ _ _ hk _ => hV2 k hk) (Int.le_refl _) (fun _ _ _ _ => rfl), RA_fr h.2.2.2 hS ⟨hc.1, hc.2.2.2⟩ (fun k _ _ _ _ hk _ => hV2 k hk) (Int.le_refl _) (fun _ _ _ _ => rfl)⟩
/-- a call that works packets leaves all but the BOXES' MEMORIES and LATEST -/
def FrW (V V' : v_V) : Prop := ∀ k, (∀ b, b < 8 → k ≠ 10 + 6 * b ∧ k ≠ 10 + 6 * b + 3) → V' k = V k
theorem FrW_rf (V : v_V) : FrW V V := fun _ _ => rfl
theorem FrW_tr {V V' V'' : v_V} (h : FrW V V') (h2 : FrW V' V'') : FrW V V'' := fun k hk => (h2 k hk).trans (h k hk)
theorem FrW_hi {V V' : v_V} (h : FrW V V') (k : Nat) (hk : k < 10 ∨ 56 ≤ k) : V' k = V k := h k (fun b hb => by omega)
theorem FrW_st {V : v_V} {b : Nat} (hb : b < 8) {x : Int} {f : Nat → Int} : FrW V (v_ur (v_up V (10 + 6 * b) 3 x) (10 + 6 * b + 3) f) := by
  intro k hk
  have := hk b hb
  rw [v_ur_ne this.2, v_up_ne this.1]
theorem RS_sg {S : m_H} {W : v_V} {σ : Nat → Int} {tl : Nat → List p_Li} {cnt b : Nat} {a h κ n : Int} (hRS : RS S W 1 σ tl) (hSO : SO cnt σ) (hTO : ∀ i : Nat, (i : Int) < σ 0 → TO (tl i)) (hb : b < 8) (hbn : (b : Int) < σ 1) (hpk : pkO a h κ n) :
    (eW a h κ n (tl (σ (178 + b)).toNat) (W (10 + 6 * b + 3))).1 = (sgW tl σ b a h κ n).1 ∧ RS S (v_ur (v_up W (10 + 6 * b) 3 (eL (W (10 + 6 * b + 3)) a h κ n 0 (tl (σ (178 + b)).toNat))) (10 + 6 * b + 3) (eW a h κ n (tl (σ (178 + b)).toNat) (W (10 + 6 * b + 3))).2) 1 (sgW tl σ b a h κ n).2 tl := by
  have hx := (hSO.2.2.1 b hb).2.1
  have hl := hTO (σ (178 + b)).toNat (by have := hx.2.2 hbn; omega)
  have hB := hRS.1.2.2.2 b hb
  have hm : ∀ p : Nat, p < 84 → W (10 + 6 * b + 3) p = zm σ (200 + 84 * b) p := fun p hp => hB.2.2.2.2.2.2.1 p hp
  have e1 := eW_congr hpk _ _ _ hm hl.1
  have e2 := eL_congr hm hpk _ 0 hl.1
  have fr := FrW_st (V := W) hb (x := eL (W (10 + 6 * b + 3)) a h κ n 0 (tl (σ (178 + b)).toNat)) (f := (eW a h κ n (tl (σ (178 + b)).toNat) (W (10 + 6 * b + 3))).2)
  have fh := FrW_hi fr
  have es : ∀ j, j < 186 ∨ (194 ≤ j ∧ j < 200) ∨ 872 ≤ j → (sgW tl σ b a h κ n).2 j = σ j := fun j hj => sgW_lt hj hb
  refine ⟨e1.1, ?_, RT_fr hRS.2.1 (SQ_rf 0 S) (by decide) (fun i t _ ht _ hct => CT_hi (fun k hk => fh k (by omega)) ht hct) (by rw [es 0 (by omega)]; omega), RW_fr hRS.2.2.1 (SQ_rf 0 S) (by decide) (fun k _ _ _ _ hk _ => fh k (by omega)) (by rw [es 3 (by omega)]; omega) (fun j _ i _ => es _ (by omega)), RA_fr hRS.2.2.2 (SQ_rf 0 S) (by decide) (fun k _ _ _ _ hk _ => fh k (by omega)) (by rw [es 5 (by omega)]; omega) (fun j _ i _ => es _ (by omega))⟩
  obtain ⟨h1, h2, h3, h4⟩ := hRS.1
  refine ⟨?_, ?_, ?_, ?_⟩
  · rw [fh 1 (by omega), es 0 (by omega), es 1 (by omega), es 2 (by omega), es 3 (by omega), es 4 (by omega), es 5 (by omega), es 6 (by omega)]
    exact h1
  · intro i hi
    rw [fh (1 + 1) (by omega), es _ (by omega)]
    exact h2 i hi
  · intro i hi
    rw [fh (1 + 4) (by omega), es _ (by omega)]
    exact h3 i hi
  · intro c hc
    have hcb := h4 c hc
    have f0 : ∀ o, o = 1 ∨ o = 2 ∨ o = 4 ∨ o = 5 → (v_ur (v_up W (10 + 6 * b) 3 (eL (W (10 + 6 * b + 3)) a h κ n 0 (tl (σ (178 + b)).toNat))) (10 + 6 * b + 3) (eW a h κ n (tl (σ (178 + b)).toNat) (W (10 + 6 * b + 3))).2) (1 + 9 + 6 * c + o) = W (1 + 9 + 6 * c + o) := fun o ho => fr _ (fun d hd => by omega)
    obtain ⟨c1, c2, c3, c4, c5, c6, c7, c8⟩ := hcb
    unfold BxN
    rw [f0 1 (by omega), f0 5 (by omega), es 1 (by omega), es (170 + c) (by omega), es (178 + c) (by omega), es (872 + c) (by omega)]
    by_cases hcb : c = b
    · subst hcb
      rw [v_ur_ne (show 1 + 9 + 6 * c ≠ 10 + 6 * c + 3 by omega), show 1 + 9 + 6 * c = 10 + 6 * c by omega, v_ur_eq, v_up_ni (show 0 ≠ 3 by decide), v_up_ni (show 1 ≠ 3 by decide), v_up_ni (show 2 ≠ 3 by decide), v_up_ni (show 4 ≠ 3 by decide), v_up_eq]
      refine ⟨c1, c2, c3, ?_, c5, fun t ht => by rw [es _ (by omega)]; exact c6 t ht, fun p hp => ?_, fun p hp => by rw [es _ (by omega)]; exact c8 p hp⟩
      · rw [e2]
        exact (v_uf_eq _ _ _).symm
      · rw [e1.2 p hp]
        have e5 : (sgW tl σ c a h κ n).2 (200 + 84 * c + p) = zm (zi σ (200 + 84 * c) (eW a h κ n (tl (σ (178 + c)).toNat) (zm σ (200 + 84 * c))).2) (200 + 84 * c) p := v_uf_ne (by omega)
        rw [e5, zm_zi hp]
    · rw [v_ur_ne (show 1 + 9 + 6 * c ≠ 10 + 6 * b + 3 by omega), v_up_ne (show 1 + 9 + 6 * c ≠ 10 + 6 * b by omega), v_ur_ne (show 1 + 9 + 6 * c + 3 ≠ 10 + 6 * b + 3 by omega), v_up_ne (show 1 + 9 + 6 * c + 3 ≠ 10 + 6 * b by omega)]
      refine ⟨c1, c2, c3, by rw [sgW_fr (by omega) (by omega)]; exact c4, c5, fun t ht => by rw [es _ (by omega)]; exact c6 t ht, fun p hp => ?_, fun p hp => by rw [es _ (by omega)]; exact c8 p hp⟩
      rw [sgW_fr (by omega) (by omega)]
      exact c7 p hp
end
section
/-! packets SENT and LET GO: the class -/
theorem TAx_RT {S : m_H} {V : v_V} {σ : Nat → Int} {tl : Nat → List p_Li} {cnt : Nat} (h : RT S V 1 σ tl) (hN : RN V 1 σ) (hs : SO cnt σ) : ∃ ta, TAx S V ta ∧ ∀ i t : Nat, (i : Int) < σ 0 → m_nth ta i = some (.ref t) → 193 ≤ t ∧ TxS S t ∧ CT V t (tl i) := by
  obtain ⟨ta, a1, a2, a3, a4⟩ := h
  have e := hN.1.2.1
  have s := hs.1.1
  refine ⟨ta, ⟨a1, a2, by omega, by omega, fun i hi => ?_⟩, fun i t hi ht => ?_⟩
  · obtain ⟨t, b1, b2, b3, b4⟩ := a4 i (by omega)
    exact ⟨t, b1, b2, b3⟩
  · obtain ⟨t2, b1, b2, b3, b4⟩ := a4 i hi
    rw [ht] at b1
    cases b1
    exact ⟨b2, b3, b4⟩
theorem CT_w6 {V : v_V} {t : Nat} {l : List p_Li} (h : CT V t l) (hl : TO l) : V t 6 ≤ 160 := by
  rw [h.2.1]
  have := hl.2.2.2.2
  omega
section
variable {X : Nat → List Int32} {u w : Nat} {S : m_H} {V : v_V} {K : v_K}
set_option maxRecDepth 100000 in
set_option maxHeartbeats 4000000 in
theorem lp_pass (hC : ClF S) {tl : Nat → List p_Li} {cnt pk : Nat} {a h κ n : Int} (hkl : 193 ≤ pk) (hpk : pkO a h κ n) {F : Nat} : ∀ (m : Nat) (r q : Nat) (σ : Nat → Int) (W : v_V), r < m → (RS S W 1 σ tl) → (SO cnt σ) → (∀ i : Nat, (i : Int) < σ 0 → TO (tl i)) → (((q + r : Nat) : Int) = σ 2) → (PkS S W pk a h κ n) → (∀ V2, RS S V2 1 (sgS tl a h κ n r q σ).2 tl → FrW W V2 → K u w (some (iv (sgS tl a h κ n r q σ).1)) S V2) → y_E X 6 47 (60 * m + F) u w 9 [(0, .ref 1), (1, .ref pk), (2, iv (q : Int))] [] S W K := by
  intro m
  induction m with
  | zero => intros; omega
  | succ m ih =>
    intro r q σ W hm hRS hSO hTO hqr hP hx2
    refine y_mono (F' := (60 * m + F) + 60) ?_ (by omega)
    refine y_ld (x := iv (q : Int)) rfl rfl (fun d => rfl) ?_
    refine y_ld (x := .ref 1) rfl rfl (fun d => rfl) ?_
    refine y_gI (i := 7) (e := (W 1 7)) rfl rfl rfl (hC 1 _ _ rfl) rfl rfl ?_
    refine y_jge rfl rfl rfl (by have := hRS.1.1; have := hSO.1; omega) (fun g1 => ?_) (fun g1 => ?_)
    · refine y_bi rfl rfl (by decide) ?_
      refine y_ld (x := .ref 1) rfl rfl (fun d => rfl) ?_
      refine y_gI (i := 7) (e := (W 1 7)) rfl rfl rfl (hC 1 _ _ rfl) rfl rfl ?_
      refine y_mul (z := (10 * (W 1 7))) rfl rfl rfl ?_
      refine y_ic rfl rfl ?_
      refine y_add (z := ((10 * (W 1 7)) + 1)) rfl rfl rfl ?_
      refine y_rI rfl (Or.inl rfl) ?_
      obtain rfl : r = 0 := by have := hRS.1.1; have := hSO.1; omega
      have e7 : 10 * W 1 7 + 1 = (sgS tl a h κ n 0 q σ).1 := by show _ = 10 * (q : Int) + 1; have := hRS.1.1; have := hSO.1; omega
      rw [e7]
      exact hx2 W hRS (FrW_rf W)
    · obtain ⟨h1, h2, h3, h4⟩ := hRS.1
      have hsz := hSO.1
      obtain ⟨r, rfl⟩ : ∃ e, r = e + 1 := ⟨r - 1, by omega⟩
      have hpo := hpk
      obtain ⟨p1, p2, p3, p4⟩ := hpo
      obtain ⟨w1, w2, w3, w4, w5⟩ := wBox_lt hSO (q := q) (by omega) p1
      have hr5 := hSO.2.2.2.2.1 q (by omega)
      have e5 : W 5 q = σ (1680 + q) := h3 q (by omega)
      have hBc := h4 (σ (1680 + q)).toNat (by omega)
      have el : W (10 + 6 * (σ (1680 + q)).toNat + 1) a.toNat = (((wBox σ q a) : Nat) : Int) := (hBc.2.2.2.2.2.1 a.toNat (by omega)).trans w5
      have hbw := h4 (wBox σ q a) w3
      have hx2t := (hSO.2.2.1 (wBox σ q a) w3).2.1
      have et : W (10 + 6 * (wBox σ q a)) 2 = σ (178 + (wBox σ q a)) := hbw.2.2.1
      obtain ⟨ta, hT, hTt⟩ := TAx_RT hRS.2.1 hRS.1 hSO
      have hTx := hx2t.2.2 w4
      have hl := hTO (σ (178 + (wBox σ q a))).toNat (by omega)
      have hsg := RS_sg hRS hSO hTO w3 w4 hpk
      have hso := sgW_SO (tl := tl) (t := a) (h := h) (k := κ) (n := n) hSO w3 hl.2.2.1
      have hwl : ∀ j, j < 186 ∨ (194 ≤ j ∧ j < 200) ∨ 872 ≤ j → (sgW tl σ (wBox σ q a) a h κ n).2 j = σ j := fun j hj => sgW_lt hj w3
      have e2 := hwl 2 (by omega)
      have e0 := hwl 0 (by omega)
      refine y_ld (x := .ref 1) rfl rfl (fun d => rfl) ?_
      refine y_ld (x := .ref 1) rfl rfl (fun d => rfl) ?_
      refine y_gR (i := 6) rfl rfl rfl (hC 1 _ _ rfl) rfl ?_
      refine y_ld (x := iv (q : Int)) rfl rfl (fun d => rfl) ?_
      refine y_ild (x := (σ (1680 + q))) (q := q) rfl rfl (cl_ia hC (k := 5) (N := 6) rfl) (by omega) (by decide) (by omega) e5 ?_
      refine y_cV (as := [.ref 1, iv (σ (1680 + q))]) rfl rfl rfl rfl rfl (hC 1 _ _ rfl) ⟨rfl, (Nat.le_of_ble_eq_true rfl), (Nat.le_of_ble_eq_true rfl)⟩ (by decide) (cb_boxAt (x := σ (1680 + q)) hC (by omega) (by omega) (fun hno => absurd (show 0 ≤ σ (1680 + q) ∧ σ (1680 + q) < W 1 5 by omega) hno) (fun gB => ?_))
      refine y_nv ?_
      refine y_st (lv' := [(3, .ref (10 + 6 * (σ (1680 + q)).toNat)), (0, .ref 1), (1, .ref pk), (2, iv (q : Int))]) rfl rfl (fun d => rfl) ?_
      refine y_ld (x := .ref (10 + 6 * (σ (1680 + q)).toNat)) rfl rfl (fun d => rfl) ?_
      refine y_in (pc' := 36) rfl rfl (fun d => rfl) ?_
      refine y_ld (x := .ref 1) rfl rfl (fun d => rfl) ?_
      refine y_ld (x := .ref (10 + 6 * (σ (1680 + q)).toNat)) rfl rfl (fun d => rfl) ?_
      refine y_gR (i := 5) rfl rfl rfl (bx_ob hC (i := (σ (1680 + q)).toNat) (by omega)) rfl ?_
      refine y_ld (x := .ref pk) rfl rfl (fun d => rfl) ?_
      refine y_gI (i := 0) (e := a) rfl rfl rfl hP.1 rfl hP.2.1 ?_
      refine y_ild (x := (((wBox σ q a) : Nat) : Int)) (q := a.toNat) rfl rfl (bx_led hC (i := (σ (1680 + q)).toNat) (by omega)) (by omega) (by decide) (by omega) el ?_
      refine y_cV (as := [.ref 1, iv (((wBox σ q a) : Nat) : Int)]) rfl rfl rfl rfl rfl (hC 1 _ _ rfl) ⟨rfl, (Nat.le_of_ble_eq_true rfl), (Nat.le_of_ble_eq_true rfl)⟩ (by decide) (cb_boxAt (x := (((wBox σ q a) : Nat) : Int)) hC (by omega) (by omega) (fun hno => absurd (show 0 ≤ (((wBox σ q a) : Nat) : Int) ∧ (((wBox σ q a) : Nat) : Int) < W 1 5 by omega) hno) (fun gD => ?_))
      refine y_nv ?_
      refine y_st (lv' := [(4, .ref (10 + 6 * (wBox σ q a))), (3, .ref (10 + 6 * (σ (1680 + q)).toNat)), (0, .ref 1), (1, .ref pk), (2, iv (q : Int))]) rfl rfl (fun d => rfl) ?_
      refine y_ld (x := .ref (10 + 6 * (wBox σ q a))) rfl rfl (fun d => rfl) ?_
      refine y_in (pc' := 59) rfl rfl (fun d => rfl) ?_
      refine y_ld (x := .ref (10 + 6 * (wBox σ q a))) rfl rfl (fun d => rfl) ?_
      refine y_ld (x := .ref pk) rfl rfl (fun d => rfl) ?_
      refine y_ld (x := .ref 1) rfl rfl (fun d => rfl) ?_
      refine y_ld (x := .ref (10 + 6 * (wBox σ q a))) rfl rfl (fun d => rfl) ?_
      refine y_gI (i := 2) (e := (σ (178 + (wBox σ q a)))) rfl rfl rfl (bx_ob hC (i := (wBox σ q a)) (by omega)) rfl et ?_
      refine y_cV (as := [.ref 1, iv (σ (178 + (wBox σ q a)))]) rfl rfl rfl rfl rfl (hC 1 _ _ rfl) ⟨rfl, (Nat.le_of_ble_eq_true rfl), (Nat.le_of_ble_eq_true rfl)⟩ (by decide) (cb_textAt (x := σ (178 + (wBox σ q a))) hC hT (by omega) (fun hno => absurd (show 0 ≤ σ (178 + (wBox σ q a)) ∧ σ (178 + (wBox σ q a)) < W 1 3 by omega) hno) (fun (t : Nat) gT ht1 ht2 ht3 => ?_))
      obtain ⟨-, -, hct⟩ := hTt _ t (by omega) ht1
      refine y_nv ?_
      refine y_cV (as := [.ref (10 + 6 * (wBox σ q a)), .ref pk, .ref t]) rfl rfl rfl rfl rfl (bx_ob hC (i := (wBox σ q a)) (by omega)) ⟨rfl, (Nat.le_of_ble_eq_true rfl), (Nat.le_of_ble_eq_true rfl)⟩ (by decide) (cc_steps (b := (wBox σ q a)) (l := (tl (σ (178 + (wBox σ q a))).toNat)) hC w3 ht3 ht2 hkl hP hpk (fun p hp => by rw [hbw.2.2.2.2.2.2.1 p hp]; exact (hSO.2.2.1 _ w3).2.2.2.2.1 p hp) (CT_w6 hct hl) hct hl.1 hl.2.1 hl.2.2.1 ?_)
      refine y_nv ?_
      refine y_iv hsg.1 ?_
      refine y_st (lv' := [(5, iv ((sgW tl σ (wBox σ q a) a h κ n).1)), (4, .ref (10 + 6 * (wBox σ q a))), (3, .ref (10 + 6 * (σ (1680 + q)).toNat)), (0, .ref 1), (1, .ref pk), (2, iv (q : Int))]) rfl rfl (fun d => rfl) ?_
      refine y_ld (x := iv ((sgW tl σ (wBox σ q a) a h κ n).1)) rfl rfl (fun d => rfl) ?_
      refine y_ic rfl rfl ?_
      refine y_jeq rfl rfl rfl (by omega) (fun g2 => ?_) (fun g2 => ?_)
      · refine y_inc (z := ((q + 1 : Nat) : Int)) (lv' := [(2, iv ((q + 1 : Nat) : Int)), (5, iv ((sgW tl σ (wBox σ q a) a h κ n).1)), (4, .ref (10 + 6 * (wBox σ q a))), (3, .ref (10 + 6 * (σ (1680 + q)).toNat)), (0, .ref 1), (1, .ref pk)]) rfl rfl rfl (by omega) rfl ?_
        refine y_go rfl rfl ?_
        refine y_lv (l' := [(0, .ref 1), (1, .ref pk), (2, iv ((q + 1 : Nat) : Int))]) rfl ⟨rfl, rfl, rfl, trivial⟩ ?_
        rw [show sgS tl a h κ n (r + 1) q σ = sgS tl a h κ n r (q + 1) (sgW tl σ (wBox σ q a) a h κ n).2 from if_pos (by omega)] at hx2
        exact y_mono (ih r (q + 1) (sgW tl σ (wBox σ q a) a h κ n).2 (v_ur (v_up W (10 + 6 * (wBox σ q a)) 3 (eL (W (10 + 6 * (wBox σ q a) + 3)) a h κ n 0 (tl (σ (178 + (wBox σ q a))).toNat))) (10 + 6 * (wBox σ q a) + 3) (eW a h κ n (tl (σ (178 + (wBox σ q a))).toNat) (W (10 + 6 * (wBox σ q a) + 3))).2) (by omega) hsg.2 hso.1 (by rw [e0]; exact hTO) (by rw [e2]; omega) (PkS_r hP (FrW_hi (FrW_st w3) _ (by omega))) (fun V2 a1 a2 => hx2 V2 a1 (FrW_tr (FrW_st w3) a2))) (by omega)
      · refine y_bi rfl rfl (by decide) ?_
        refine y_ld (x := iv (q : Int)) rfl rfl (fun d => rfl) ?_
        refine y_mul (z := (10 * (q : Int))) rfl rfl rfl ?_
        refine y_ld (x := iv ((sgW tl σ (wBox σ q a) a h κ n).1)) rfl rfl (fun d => rfl) ?_
        refine y_add (z := ((10 * (q : Int)) + ((sgW tl σ (wBox σ q a) a h κ n).1))) rfl rfl rfl ?_
        refine y_rI rfl (Or.inl rfl) ?_
        rw [show sgS tl a h κ n (r + 1) q σ = (10 * (q : Int) + (sgW tl σ (wBox σ q a) a h κ n).1, (sgW tl σ (wBox σ q a) a h κ n).2) from if_neg (by omega)] at hx2
        exact hx2 _ hsg.2 (FrW_st w3)
set_option maxRecDepth 100000 in
set_option maxHeartbeats 4000000 in
theorem cc_pass (hC : ClF S) {tl : Nat → List p_Li} {cnt pk : Nat} {a h κ n : Int} (hkl : 193 ≤ pk) (hpk : pkO a h κ n) {σ : Nat → Int} (hRS : RS S V 1 σ tl) (hSO : SO cnt σ) (hTO : ∀ i : Nat, (i : Int) < σ 0 → TO (tl i)) (hP : PkS S V pk a h κ n) (k : ∀ V2, RS S V2 1 (sgS tl a h κ n (σ 2).toNat 0 σ).2 tl → FrW V V2 → K u w (some (iv (sgS tl a h κ n (σ 2).toNat 0 σ).1)) S V2) : y_R X 7 47 u w [.ref 1, .ref pk] S V K := by
  refine y_ent (lv' := [(0, .ref 1), (1, .ref pk)]) (Nat.le_of_ble_eq_true rfl) rfl ?_
  refine y_ld (x := .ref pk) rfl rfl (fun d => rfl) ?_
  refine y_in (pc' := 7) rfl rfl (fun d => rfl) ?_
  refine y_ic rfl rfl ?_
  refine y_st (lv' := [(2, iv 0), (0, .ref 1), (1, .ref pk)]) rfl rfl (fun d => rfl) ?_
  refine y_lv (l' := [(0, .ref 1), (1, .ref pk), (2, iv ((0 : Nat) : Int))]) rfl ⟨rfl, rfl, rfl, trivial⟩ ?_
  exact y_mono (lp_pass (F := 100) hC hkl hpk 7 (σ 2).toNat 0 σ V (by have := hSO.1; omega) hRS hSO hTO (by have := hSO.1; omega) hP k) (by decide)
end
end
section
/-! a state, when things were made; a packet made -/
theorem ce_lt {S : m_H} {k t : Nat} {vs : List Value} (h : ce S k t vs) : k < S.length := m_nth_lt h.2
theorem CT_lo {S : m_H} {V V' : v_V} {t : Nat} {l : List p_Li} (hV : ∀ k, k < S.length → V' k = V k) (hx : TxS S t) (h : CT V t l) : CT V' t l := by
  have h6 := ce_lt hx.2.2.2.2.2.2
  exact CT_r h (fun i hi => hV _ (by omega))
theorem RS_ap {S S' : m_H} {V V' : v_V} {B q : Nat} {σ : Nat → Int} {tl : Nat → List p_Li} (h : RS S V B σ tl) (hB : B = 1 ∨ B = 58) (hS : SQ q S S') (hq : q < 193 ∧ q ≠ B + 2 ∧ q ≠ B + 5 ∧ q ≠ B + 6) (hV : ∀ k, k < S.length → V' k = V k) (hl : 193 ≤ S.length) : RS S' V' B σ tl :=
  ⟨RN_fr h.1 (fun k _ _ => hV k (by omega)), RT_fr h.2.1 hS ⟨hq.1, hq.2.1⟩ (fun i t _ _ hx hct => CT_lo hV hx hct) (Int.le_refl _), RW_fr h.2.2.1 hS ⟨hq.1, hq.2.2.1⟩ (fun k _ _ _ _ _ hp => hV k (ce_lt hp.1)) (Int.le_refl _) (fun _ _ _ _ => rfl), RA_fr h.2.2.2 hS ⟨hq.1, hq.2.2.2⟩ (fun k _ _ _ _ _ hp => hV k (ce_lt hp.1)) (Int.le_refl _) (fun _ _ _ _ => rfl)⟩
/-- what was there is as it was but for the BOXES' MEMORIES and LATEST -/
def FrN (S : m_H) (V V' : v_V) : Prop := ∀ k, k < S.length → (∀ b, b < 8 → k ≠ 10 + 6 * b ∧ k ≠ 10 + 6 * b + 3) → V' k = V k
theorem FrN_W {S : m_H} {V V' V'' : v_V} (h : ∀ k, k < S.length → V' k = V k) (h2 : FrW V' V'') : FrN S V V'' := fun k hk hb => (h2 k hb).trans (h k hk)
/-- a packet made at the end of all -/
abbrev pkV (V : v_V) (s : Nat) (t h y o : Int) : v_V := v_up (v_up (v_up (v_up (v_ur V s (fun _ => 0)) s 0 t) s 1 h) s 2 y) s 3 o
theorem pkV_fr {V : v_V} {s : Nat} {t h y o : Int} {k : Nat} (hk : k ≠ s) : pkV V s t h y o k = V k := by
  unfold pkV
  rw [v_up_ne hk, v_up_ne hk, v_up_ne hk, v_up_ne hk, v_ur_ne hk]
theorem pkV_pk {S : m_H} {V : v_V} {t h y o : Int} (hl : S.length < 1000000) : PkS (S ++ [(2, m_dfl 2)]) (pkV V S.length t h y o) S.length t h y o := by
  refine ⟨ce_new hl, ?_, ?_, ?_, ?_⟩
  · unfold pkV
    rw [v_up_ni (by decide), v_up_ni (by decide), v_up_ni (by decide), v_up_eq]
  · unfold pkV
    rw [v_up_ni (by decide), v_up_ni (by decide), v_up_eq]
  · unfold pkV
    rw [v_up_ni (by decide), v_up_eq]
  · unfold pkV
    rw [v_up_eq]
theorem rf_pkO {t h k n : Int} (e : z_rf t h k n = 0) : pkO t h k n := by
  unfold z_rf at e
  split at e
  · rename_i h1
    split at e
    · rename_i h2
      exact ⟨h1.1, h1.2.1, h1.2.2, h2⟩
    · omega
  · omega
theorem rf_vals (t h k n : Int) : z_rf t h k n = 0 ∨ z_rf t h k n = -1 ∨ z_rf t h k n = -2 := by
  unfold z_rf
  split
  · split
    · exact Or.inl rfl
    · exact Or.inr (Or.inr rfl)
  · exact Or.inr (Or.inl rfl)
/-- no TALK is HELD and none waits -/
def relS (σ : Nat → Int) : Nat → Int := v_uf (v_uf σ 4 0) 3 0
theorem relS_ne {σ : Nat → Int} {j : Nat} (h : j ≠ 3 ∧ j ≠ 4) : relS σ j = σ j := by
  unfold relS
  rw [v_uf_ne h.1, v_uf_ne h.2]
theorem relS_3 (σ : Nat → Int) : relS σ 3 = 0 := v_uf_eq _ _ _
theorem relS_4 (σ : Nat → Int) : relS σ 4 = 0 := (v_uf_ne (by decide)).trans (v_uf_eq _ _ _)
theorem relS_SO {cnt : Nat} {σ : Nat → Int} (hs : SO cnt σ) : SO cnt (relS σ) := by
  obtain ⟨a1, a2, a3, a4, a5, a6, a7⟩ := hs
  have e : ∀ j, j ≠ 3 ∧ j ≠ 4 → relS σ j = σ j := fun j hj => relS_ne hj
  refine ⟨?_, ?_, ?_, ?_, ?_, ?_, ?_⟩
  · rw [e 0 (by omega), e 1 (by omega), e 2 (by omega), relS_3, relS_4, e 5 (by omega), e 6 (by omega)]
    exact ⟨a1.1, a1.2.1, a1.2.2.1, by decide, by decide, a1.2.2.2.2.2⟩
  · intro i hi
    rw [e _ (by omega)]
    exact a2 i hi
  · intro b hb
    obtain ⟨c1, c2, c3, c4, c5, c6⟩ := a3 b hb
    rw [e (170 + b) (by omega), e (178 + b) (by omega), e (186 + b) (by omega), e (872 + b) (by omega), e 1 (by omega), e 0 (by omega)]
    refine ⟨c1, c2, c3, c4, fun p hp => ?_, fun p hp => ?_⟩
    · show -2147483648 ≤ relS σ (200 + 84 * b + p) ∧ relS σ (200 + 84 * b + p) < 2147483648
      rw [e _ (by omega)]
      exact c5 p hp
    · show -2147483648 ≤ relS σ (880 + 84 * b + p) ∧ relS σ (880 + 84 * b + p) < 2147483648
      rw [e _ (by omega)]
      exact c6 p hp
  · intro b hb t ht
    rw [e _ (by omega), e 1 (by omega)]
    exact a4 b hb t ht
  · intro i hi
    rw [e _ (by omega), e 1 (by omega), e 2 (by omega)]
    exact a5 i hi
  · intro i hi
    rw [relS_3] at hi
    omega
  · intro i hi
    rw [e 5 (by omega)] at hi
    rw [e _ (by omega), e _ (by omega), e _ (by omega), e _ (by omega)]
    exact a7 i hi
theorem rlS_SO {cnt : Nat} {tl : Nat → List p_Li} : ∀ (m i : Nat) (σ : Nat → Int), SO cnt σ → (∀ i : Nat, (i : Int) < σ 0 → TO (tl i)) → (∀ j, i ≤ j → j < i + m → pkO (σ (1690 + 4 * j)) (σ (1690 + 4 * j + 1)) (σ (1690 + 4 * j + 2)) (σ (1690 + 4 * j + 3))) → SO cnt (rlS tl m i σ) ∧ ∀ j, j < 186 ∨ (194 ≤ j ∧ j < 200) ∨ 872 ≤ j → rlS tl m i σ j = σ j
  | 0, i, σ, hs, _, _ => ⟨hs, fun _ _ => rfl⟩
  | m + 1, i, σ, hs, hT, hp => by
    have hp0 := hp i (by omega) (by omega)
    have h1 := sgS_SO (cnt := cnt) (tl := tl) (h := σ (1690 + 4 * i + 1)) (k := σ (1690 + 4 * i + 2)) (n := σ (1690 + 4 * i + 3)) hp0.1 (σ 2).toNat 0 σ hs hT (by have := hs.1; omega)
    have e := h1.2.1
    have ih := rlS_SO m (i + 1) _ h1.1 (by rw [e 0 (by omega)]; exact hT) (fun j h2 h3 => by rw [e _ (by omega), e _ (by omega), e _ (by omega), e _ (by omega)]; exact hp j (by omega) (by omega))
    unfold rlS
    exact ⟨ih.1, fun j hj => (ih.2 j hj).trans (e j hj)⟩
theorem RN_rel {V : v_V} {σ : Nat → Int} (h : RN V 1 σ) : RN (v_up (v_up V 1 10 0) 1 9 0) 1 (relS σ) := by
  obtain ⟨h1, h2, h3, h4⟩ := h
  have e : ∀ j, j ≠ 3 ∧ j ≠ 4 → relS σ j = σ j := fun j hj => relS_ne hj
  have f : ∀ k, k ≠ 1 → v_up (v_up V 1 10 0) 1 9 0 k = V k := fun k hk => by rw [v_up_ne hk, v_up_ne hk]
  have g : ∀ i, i ≠ 9 → i ≠ 10 → v_up (v_up V 1 10 0) 1 9 0 1 i = V 1 i := fun i h9 h10 => by rw [v_up_ni h9, v_up_ni h10]
  refine ⟨⟨?_, ?_, ?_, ?_, ?_, ?_, ?_⟩, ?_, ?_, ?_⟩
  · rw [g 1 (by decide) (by decide), e 6 (by omega)]; exact h1.1
  · rw [g 3 (by decide) (by decide), e 0 (by omega)]; exact h1.2.1
  · rw [g 5 (by decide) (by decide), e 1 (by omega)]; exact h1.2.2.1
  · rw [g 7 (by decide) (by decide), e 2 (by omega)]; exact h1.2.2.2.1
  · rw [relS_3, v_up_eq]
  · rw [relS_4, v_up_ni (by decide), v_up_eq]
  · rw [g 12 (by decide) (by decide), e 5 (by omega)]; exact h1.2.2.2.2.2.2
  · intro i hi
    rw [f _ (by omega), e _ (by omega)]
    exact h2 i hi
  · intro i hi
    rw [f _ (by omega), e _ (by omega)]
    exact h3 i hi
  · intro b hb
    obtain ⟨c1, c2, c3, c4, c5, c6, c7, c8⟩ := h4 b hb
    unfold BxN
    rw [f _ (by omega), f _ (by omega), f _ (by omega), f _ (by omega), e 1 (by omega), e _ (by omega), e _ (by omega), e _ (by omega), e _ (by omega)]
    refine ⟨c1, c2, c3, c4, c5, fun t ht => by rw [e _ (by omega)]; exact c6 t ht, fun p hp => by rw [e _ (by omega)]; exact c7 p hp, fun p hp => by rw [e _ (by omega)]; exact c8 p hp⟩
theorem RS_rel {S : m_H} {V : v_V} {σ : Nat → Int} {tl : Nat → List p_Li} {cnt : Nat} (h : RS S V 1 σ tl) (hs : SO cnt σ) : RS S (v_up (v_up V 1 10 0) 1 9 0) 1 (relS σ) tl := by
  have e : ∀ j, j ≠ 3 ∧ j ≠ 4 → relS σ j = σ j := fun j hj => relS_ne hj
  have f : ∀ k, k ≠ 1 → v_up (v_up V 1 10 0) 1 9 0 k = V k := fun k hk => by rw [v_up_ne hk, v_up_ne hk]
  exact ⟨RN_rel h.1, RT_fr h.2.1 (SQ_rf 0 S) (by decide) (fun i t _ ht _ hct => CT_hi (fun k hk => f k (by omega)) ht hct) (by rw [e 0 (by omega)]; exact Int.le_refl _), RW_fr h.2.2.1 (SQ_rf 0 S) (by decide) (fun k _ _ _ _ hk _ => f k (by omega)) (by rw [relS_3]; exact hs.1.2.2.2.1.1) (fun j _ i _ => e _ (by omega)), RA_fr h.2.2.2 (SQ_rf 0 S) (by decide) (fun k _ _ _ _ hk _ => f k (by omega)) (by rw [e 5 (by omega)]; exact Int.le_refl _) (fun j _ i _ => e _ (by omega))⟩
end
section
/-! work, send, release: the class -/
section
variable {X : Nat → List Int32} {u w : Nat} {S : m_H} {V : v_V} {K : v_K}
set_option maxRecDepth 100000 in
set_option maxHeartbeats 4000000 in
theorem cs_work (hC : ClF S) (hSl : 193 ≤ S.length ∧ S.length + 7 < 1000000) {tl : Nat → List p_Li} {cnt : Nat} {σ : Nat → Int} (hRS : RS S V 1 σ tl) (hSO : SO cnt σ) (hTO : ∀ i : Nat, (i : Int) < σ 0 → TO (tl i)) {x : Int} (hx : (-2147483648 ≤ x ∧ x < 2147483648)) {t : Int} (ht : (-2147483648 ≤ t ∧ t < 2147483648)) {h : Int} (hh1 : (-2147483648 ≤ h ∧ h < 2147483648)) {y : Int} (hy : (-2147483648 ≤ y ∧ y < 2147483648)) {o : Int} (ho : (-2147483648 ≤ o ∧ o < 2147483648)) (k0 : ¬ (0 ≤ x ∧ x < V 1 5) → K u w (some (iv (-1))) S V) (k1 : 0 ≤ x ∧ x < V 1 5 → ¬ z_rf t h y o = 0 → K u w (some (iv (z_rf t h y o))) S V) (k2 : 0 ≤ x ∧ x < V 1 5 → z_rf t h y o = 0 → ∀ V2, RS (S ++ [(2, m_dfl 2)]) V2 1 (sgW tl σ x.toNat t h y o).2 tl → FrN S V V2 → K (u + 1) (w + 4) (some (iv (sgW tl σ x.toNat t h y o).1)) (S ++ [(2, m_dfl 2)]) V2) : y_R X 7 75 u w [.ref 0, iv x, iv t, iv h, iv y, iv o] S V K := by
  obtain ⟨n1, n2, n3, n4⟩ := hRS.1
  have hsz := hSO.1
  have hrf := rf_vals t h y o
  have hB : 0 ≤ V 1 5 ∧ V 1 5 ≤ 8 := by omega
  refine y_ent (lv' := [(0, .ref 0), (1, iv x), (2, iv t), (3, iv h), (4, iv y), (5, iv o)]) (Nat.le_of_ble_eq_true rfl) rfl ?_
  refine y_ld (x := .ref 0) rfl rfl (fun d => rfl) ?_
  refine y_gR (i := 0) rfl rfl rfl (hC 0 _ _ rfl) rfl ?_
  refine y_ld (x := iv x) rfl rfl (fun d => rfl) ?_
  refine y_cV (as := [.ref 1, iv x]) rfl rfl rfl rfl rfl (hC 1 _ _ rfl) ⟨rfl, (Nat.le_of_ble_eq_true rfl), (Nat.le_of_ble_eq_true rfl)⟩ (by decide) (cb_boxAt (x := x) hC hB (by omega) (fun gb1 => ?_) (fun gb1 => ?_))
  · refine y_nv ?_
    refine y_st (lv' := [(6, .null), (0, .ref 0), (1, iv x), (2, iv t), (3, iv h), (4, iv y), (5, iv o)]) rfl rfl (fun d => rfl) ?_
    refine y_ld (x := .null) rfl rfl (fun d => rfl) ?_
    refine y_in (pc' := 15) rfl rfl (fun d => rfl) ?_
    refine y_ic rfl rfl ?_
    refine y_rI rfl (Or.inl rfl) ?_
    exact k0 (by omega)
  · refine y_nv ?_
    refine y_st (lv' := [(6, .ref (10 + 6 * x.toNat)), (0, .ref 0), (1, iv x), (2, iv t), (3, iv h), (4, iv y), (5, iv o)]) rfl rfl (fun d => rfl) ?_
    refine y_ld (x := .ref (10 + 6 * x.toNat)) rfl rfl (fun d => rfl) ?_
    refine y_in (pc' := 17) rfl rfl (fun d => rfl) ?_
    refine y_ld (x := iv t) rfl rfl (fun d => rfl) ?_
    refine y_ld (x := iv h) rfl rfl (fun d => rfl) ?_
    refine y_ld (x := iv y) rfl rfl (fun d => rfl) ?_
    refine y_ld (x := iv o) rfl rfl (fun d => rfl) ?_
    refine y_cS (as := [iv t, iv h, iv y, iv o]) rfl (by decide) rfl rfl rfl rfl ⟨(Nat.le_of_ble_eq_true rfl), (Nat.le_of_ble_eq_true rfl)⟩ (by decide) (cc_refusalOf (by omega) ?_)
    refine y_nv ?_
    refine y_st (lv' := [(7, iv (z_rf t h y o)), (6, .ref (10 + 6 * x.toNat)), (0, .ref 0), (1, iv x), (2, iv t), (3, iv h), (4, iv y), (5, iv o)]) rfl rfl (fun d => rfl) ?_
    refine y_ld (x := iv (z_rf t h y o)) rfl rfl (fun d => rfl) ?_
    refine y_zeq rfl rfl rfl (by omega) (fun g1 => ?_) (fun g1 => ?_)
    · refine y_ld (x := .ref (10 + 6 * x.toNat)) rfl rfl (fun d => rfl) ?_
      refine y_new (z := 4) rfl rfl (by omega) rfl (dfl_ok (by decide)) ?_
      refine y_V (V' := v_ur V S.length (fun _ => 0)) rfl ?_
      have hp : ce (S ++ [(2, m_dfl 2)]) S.length 2 [.int 0, .int 0, .int 0, .int 0] := ce_new (by omega)
      have hCp : ClF (S ++ [(2, m_dfl 2)]) := cl_app hC
      refine y_in rfl rfl (fun d => rfl) ?_
      refine y_ld (x := iv t) rfl rfl (fun d => rfl) ?_
      refine y_ld (x := iv h) rfl rfl (fun d => rfl) ?_
      refine y_ld (x := iv y) rfl rfl (fun d => rfl) ?_
      refine y_ld (x := iv o) rfl rfl (fun d => rfl) ?_
      refine y_cI (as := [.ref S.length, iv t, iv h, iv y, iv o]) rfl (by decide) rfl rfl rfl rfl ⟨(Nat.le_of_ble_eq_true rfl), (Nat.le_of_ble_eq_true rfl), (by omega)⟩ (by decide) (cp_init hp ?_)
      have hPk := pkV_pk (S := S) (V := V) (t := t) (h := h) (y := y) (o := o) (by omega)
      have hfr : ∀ k, k < S.length → (pkV V S.length t h y o) k = V k := fun k hk => pkV_fr (by omega)
      have hRS2 := RS_ap hRS (Or.inl rfl) (SQ_app 0 S (2, m_dfl 2)) (by decide) hfr hSl.1
      refine y_n0 ?_
      have hpk := rf_pkO (by assumption : z_rf t h y o = 0)
      have hb8 : x.toNat < 8 := by omega
      have hbn : ((x.toNat : Nat) : Int) < σ 1 := by omega
      have hx2t := (hSO.2.2.1 x.toNat hb8).2.1
      have hTx := hx2t.2.2 hbn
      have hl := hTO (σ (178 + x.toNat)).toNat (by omega)
      obtain ⟨ta, hT, hTt⟩ := TAx_RT hRS2.2.1 hRS2.1 hSO
      obtain ⟨m1, m2, m3, m4⟩ := hRS2.1
      have hbw := m4 x.toNat hb8
      have et : (pkV V S.length t h y o) (10 + 6 * x.toNat) 2 = σ (178 + x.toNat) := hbw.2.2.1
      have hsg := RS_sg hRS2 hSO hTO hb8 hbn hpk
      have hmu : muO ((pkV V S.length t h y o) (10 + 6 * x.toNat + 3)) := fun p hp => by rw [show (pkV V S.length t h y o) (10 + 6 * x.toNat + 3) p = σ (200 + 84 * x.toNat + p) from hbw.2.2.2.2.2.2.1 p hp]; exact (hSO.2.2.1 _ hb8).2.2.2.2.1 p hp
      refine y_ld (x := .ref 0) rfl rfl (fun d => rfl) ?_
      refine y_gR (i := 0) rfl rfl rfl (hCp 0 _ _ rfl) rfl ?_
      refine y_ld (x := .ref (10 + 6 * x.toNat)) rfl rfl (fun d => rfl) ?_
      refine y_gI (i := 2) (e := (σ (178 + x.toNat))) rfl rfl rfl (bx_ob hCp (i := x.toNat) (by omega)) rfl et ?_
      refine y_cV (as := [.ref 1, iv (σ (178 + x.toNat))]) rfl rfl rfl rfl rfl (hCp 1 _ _ rfl) ⟨rfl, (Nat.le_of_ble_eq_true rfl), (Nat.le_of_ble_eq_true rfl)⟩ (by decide) (cb_textAt (x := σ (178 + x.toNat)) hCp hT (by omega) (fun hno => absurd (show 0 ≤ σ (178 + x.toNat) ∧ σ (178 + x.toNat) < (pkV V S.length t h y o) 1 3 by omega) hno) (fun (t1 : Nat) gT ht1 ht2 ht3 => ?_))
      obtain ⟨-, -, hct⟩ := hTt _ t1 (by omega) ht1
      refine y_nv ?_
      refine y_cV (as := [.ref (10 + 6 * x.toNat), .ref S.length, .ref t1]) rfl rfl rfl rfl rfl (bx_ob hCp (i := x.toNat) (by omega)) ⟨rfl, (Nat.le_of_ble_eq_true rfl), (Nat.le_of_ble_eq_true rfl)⟩ (by decide) (cc_steps (b := x.toNat) (l := (tl (σ (178 + x.toNat)).toNat)) hCp hb8 ht3 ht2 hSl.1 hPk hpk hmu (CT_w6 hct hl) hct hl.1 hl.2.1 hl.2.2.1 ?_)
      refine y_nv ?_
      refine y_iv hsg.1 ?_
      refine y_rI rfl (Or.inl rfl) ?_
      exact k2 (by omega) (by assumption) _ hsg.2 (FrN_W hfr (FrW_st hb8))
    · refine y_ld (x := iv (z_rf t h y o)) rfl rfl (fun d => rfl) ?_
      refine y_rI rfl (Or.inl rfl) ?_
      exact k1 (by omega) (by assumption)
theorem pkV_1 {S : m_H} {V : v_V} {t h y o : Int} (hl : 193 ≤ S.length) : pkV V S.length t h y o 1 = V 1 := pkV_fr (by omega)
set_option maxRecDepth 100000 in
set_option maxHeartbeats 4000000 in
theorem cs_send (hC : ClF S) (hSl : 193 ≤ S.length ∧ S.length + 7 < 1000000) {tl : Nat → List p_Li} {cnt : Nat} {σ : Nat → Int} (hRS : RS S V 1 σ tl) (hSO : SO cnt σ) (hTO : ∀ i : Nat, (i : Int) < σ 0 → TO (tl i)) {t : Int} (ht : (-2147483648 ≤ t ∧ t < 2147483648)) {h : Int} (hh1 : (-2147483648 ≤ h ∧ h < 2147483648)) {y : Int} (hy : (-2147483648 ≤ y ∧ y < 2147483648)) {o : Int} (ho : (-2147483648 ≤ o ∧ o < 2147483648)) {n : Nat} (hn : V 1 9 = (n : Int)) {wa : List Value} (hwa : ce S 6 24 wa) (hwl : wa.length = 20) (k0 : ¬ z_rf t h y o = 0 → K u w (some (iv (z_rf t h y o))) S V) (k1 : z_rf t h y o = 0 → V 1 7 = 0 → K u w (some (iv (-3))) S V) (k2 : z_rf t h y o = 0 → ¬ V 1 7 = 0 → V 1 10 / 2 ^ t.toNat % 2 = 1 → 20 ≤ (n : Int) → K u w (some (iv (-4))) S V) (k3 : z_rf t h y o = 0 → ¬ V 1 7 = 0 → V 1 10 / 2 ^ t.toNat % 2 = 1 → (n : Int) < 20 → K (u + 1) (w + 4) (some (iv (-6))) ((S ++ [(2, m_dfl 2)]).set 6 (24, wa.set n (.ref S.length))) (v_up (pkV V S.length t h y o) 1 9 ((n : Int) + 1))) (k4 : z_rf t h y o = 0 → ¬ V 1 7 = 0 → V 1 10 / 2 ^ t.toNat % 2 = 0 → ∀ V2, RS (S ++ [(2, m_dfl 2)]) V2 1 (sgS tl t h y o (σ 2).toNat 0 σ).2 tl → FrN S V V2 → K (u + 1) (w + 4) (some (iv (sgS tl t h y o (σ 2).toNat 0 σ).1)) (S ++ [(2, m_dfl 2)]) V2) : y_R X 8 79 u w [.ref 0, iv t, iv h, iv y, iv o] S V K := by
  obtain ⟨n1, n2, n3, n4⟩ := hRS.1
  have hsz := hSO.1
  have hrf := rf_vals t h y o
  refine y_ent (lv' := [(0, .ref 0), (1, iv t), (2, iv h), (3, iv y), (4, iv o)]) (Nat.le_of_ble_eq_true rfl) rfl ?_
  refine y_ld (x := iv t) rfl rfl (fun d => rfl) ?_
  refine y_ld (x := iv h) rfl rfl (fun d => rfl) ?_
  refine y_ld (x := iv y) rfl rfl (fun d => rfl) ?_
  refine y_ld (x := iv o) rfl rfl (fun d => rfl) ?_
  refine y_cS (as := [iv t, iv h, iv y, iv o]) rfl (by decide) rfl rfl rfl rfl ⟨(Nat.le_of_ble_eq_true rfl), (Nat.le_of_ble_eq_true rfl)⟩ (by decide) (cc_refusalOf (by omega) ?_)
  refine y_nv ?_
  refine y_st (lv' := [(5, iv (z_rf t h y o)), (0, .ref 0), (1, iv t), (2, iv h), (3, iv y), (4, iv o)]) rfl rfl (fun d => rfl) ?_
  refine y_ld (x := iv (z_rf t h y o)) rfl rfl (fun d => rfl) ?_
  refine y_zeq rfl rfl rfl (by omega) (fun g1 => ?_) (fun g1 => ?_)
  · refine y_ld (x := .ref 0) rfl rfl (fun d => rfl) ?_
    refine y_gR (i := 0) rfl rfl rfl (hC 0 _ _ rfl) rfl ?_
    refine y_gI (i := 7) (e := (V 1 7)) rfl rfl rfl (hC 1 _ _ rfl) rfl rfl ?_
    refine y_zne rfl rfl rfl (by omega) (fun g2 => ?_) (fun g2 => ?_)
    · refine y_ld (x := .ref 0) rfl rfl (fun d => rfl) ?_
      refine y_gR (i := 0) rfl rfl rfl (hC 0 _ _ rfl) rfl ?_
      refine y_gI (i := 10) (e := (V 1 10)) rfl rfl rfl (hC 1 _ _ rfl) rfl rfl ?_
      have hpk := rf_pkO (by assumption : z_rf t h y o = 0)
      obtain ⟨p1, p2, p3, p4⟩ := hpk
      have hp2 := v_p2 t.toNat
      have hp3 : (2 : Int) ^ t.toNat ≤ 32768 := z_p2le (by omega)
      rcases (show V 1 10 / 2 ^ t.toNat % 2 = 0 ∨ V 1 10 / 2 ^ t.toNat % 2 = 1 by have := v_bit01 (V 1 10) t.toNat; omega) with hd | hd
      · refine y_ic rfl rfl ?_
        refine y_ld (x := iv t) rfl rfl (fun d => rfl) ?_
        refine y_op (z := (2 ^ t.toNat)) rfl rfl (fun d => rfl) (v_shl1 (k := t) (by omega)) ?_
        refine y_op (z := 0) rfl rfl (fun d => rfl) ((v_and2 (x := V 1 10) (k := t.toNat) (by omega) (by omega)).trans (by rw [hd, Int.mul_zero])) ?_
        refine y_zeq rfl rfl rfl (by decide) (fun g3 => ?_) (fun g3 => absurd g3 (by decide))
        refine y_ic rfl rfl ?_
        refine y_st (lv' := [(6, iv 0), (5, iv (z_rf t h y o)), (0, .ref 0), (1, iv t), (2, iv h), (3, iv y), (4, iv o)]) rfl rfl (fun d => rfl) ?_
        refine y_ld (x := iv 0) rfl rfl (fun d => rfl) ?_
        refine y_zeq rfl rfl rfl (by decide) (fun g4 => ?_) (fun g4 => absurd g4 (by decide))
        refine y_new (z := 4) rfl rfl (by omega) rfl (dfl_ok (by decide)) ?_
        refine y_V (V' := v_ur V S.length (fun _ => 0)) rfl ?_
        have hp : ce (S ++ [(2, m_dfl 2)]) S.length 2 [.int 0, .int 0, .int 0, .int 0] := ce_new (by omega)
        have hCp : ClF (S ++ [(2, m_dfl 2)]) := cl_app hC
        refine y_in rfl rfl (fun d => rfl) ?_
        refine y_ld (x := iv t) rfl rfl (fun d => rfl) ?_
        refine y_ld (x := iv h) rfl rfl (fun d => rfl) ?_
        refine y_ld (x := iv y) rfl rfl (fun d => rfl) ?_
        refine y_ld (x := iv o) rfl rfl (fun d => rfl) ?_
        refine y_cI (as := [.ref S.length, iv t, iv h, iv y, iv o]) rfl (by decide) rfl rfl rfl rfl ⟨(Nat.le_of_ble_eq_true rfl), (Nat.le_of_ble_eq_true rfl), (by omega)⟩ (by decide) (cp_init hp ?_)
        have hPk := pkV_pk (S := S) (V := V) (t := t) (h := h) (y := y) (o := o) (by omega)
        have hfr : ∀ k, k < S.length → (pkV V S.length t h y o) k = V k := fun k hk => pkV_fr (by omega)
        have hRS2 := RS_ap hRS (Or.inl rfl) (SQ_app 0 S (2, m_dfl 2)) (by decide) hfr hSl.1
        refine y_n0 ?_
        refine y_st (lv' := [(7, .ref S.length), (6, iv 0), (5, iv (z_rf t h y o)), (0, .ref 0), (1, iv t), (2, iv h), (3, iv y), (4, iv o)]) rfl rfl (fun d => rfl) ?_
        refine y_ld (x := iv 0) rfl rfl (fun d => rfl) ?_
        refine y_zne rfl rfl rfl (by decide) (fun g5 => absurd g5 (by decide)) (fun g5 => ?_)
        refine y_ld (x := .ref 0) rfl rfl (fun d => rfl) ?_
        refine y_gR (i := 0) rfl rfl rfl (hCp 0 _ _ rfl) rfl ?_
        refine y_ld (x := .ref S.length) rfl rfl (fun d => rfl) ?_
        refine y_cV (as := [.ref 1, .ref S.length]) rfl rfl rfl rfl rfl (hCp 1 _ _ rfl) ⟨rfl, (Nat.le_of_ble_eq_true rfl), (Nat.le_of_ble_eq_true rfl)⟩ (by decide) (cc_pass (σ := σ) (tl := tl) (cnt := cnt) hCp hSl.1 (rf_pkO (by assumption)) hRS2 hSO hTO hPk (fun V2 a1 a2 => ?_))
        refine y_nv ?_
        refine y_rI rfl (Or.inl rfl) ?_
        exact k4 (by assumption) (by omega) hd V2 a1 (FrN_W hfr a2)
      · refine y_ic rfl rfl ?_
        refine y_ld (x := iv t) rfl rfl (fun d => rfl) ?_
        refine y_op (z := (2 ^ t.toNat)) rfl rfl (fun d => rfl) (v_shl1 (k := t) (by omega)) ?_
        refine y_op (z := (2 ^ t.toNat)) rfl rfl (fun d => rfl) ((v_and2 (x := V 1 10) (k := t.toNat) (by omega) (by omega)).trans (by rw [hd, Int.mul_one])) ?_
        refine y_zeq rfl rfl rfl (by omega) (fun g6 => absurd g6 (by omega)) (fun g6 => ?_)
        refine y_ic rfl rfl ?_
        refine y_go rfl rfl ?_
        refine y_st (lv' := [(6, iv 1), (5, iv (z_rf t h y o)), (0, .ref 0), (1, iv t), (2, iv h), (3, iv y), (4, iv o)]) rfl rfl (fun d => rfl) ?_
        refine y_ld (x := iv 1) rfl rfl (fun d => rfl) ?_
        refine y_zeq rfl rfl rfl (by decide) (fun g7 => absurd g7 (by decide)) (fun g7 => ?_)
        refine y_ld (x := .ref 0) rfl rfl (fun d => rfl) ?_
        refine y_gR (i := 0) rfl rfl rfl (hC 0 _ _ rfl) rfl ?_
        refine y_gI (i := 9) (e := (n : Int)) rfl rfl rfl (hC 1 _ _ rfl) rfl hn ?_
        refine y_bi rfl rfl (by decide) ?_
        refine y_jlt rfl rfl rfl (by omega) (fun g8 => ?_) (fun g8 => ?_)
        · refine y_new (z := 4) rfl rfl (by omega) rfl (dfl_ok (by decide)) ?_
          refine y_V (V' := v_ur V S.length (fun _ => 0)) rfl ?_
          have hp : ce (S ++ [(2, m_dfl 2)]) S.length 2 [.int 0, .int 0, .int 0, .int 0] := ce_new (by omega)
          have hCp : ClF (S ++ [(2, m_dfl 2)]) := cl_app hC
          refine y_in rfl rfl (fun d => rfl) ?_
          refine y_ld (x := iv t) rfl rfl (fun d => rfl) ?_
          refine y_ld (x := iv h) rfl rfl (fun d => rfl) ?_
          refine y_ld (x := iv y) rfl rfl (fun d => rfl) ?_
          refine y_ld (x := iv o) rfl rfl (fun d => rfl) ?_
          refine y_cI (as := [.ref S.length, iv t, iv h, iv y, iv o]) rfl (by decide) rfl rfl rfl rfl ⟨(Nat.le_of_ble_eq_true rfl), (Nat.le_of_ble_eq_true rfl), (by omega)⟩ (by decide) (cp_init hp ?_)
          have hPk := pkV_pk (S := S) (V := V) (t := t) (h := h) (y := y) (o := o) (by omega)
          have hfr : ∀ k, k < S.length → (pkV V S.length t h y o) k = V k := fun k hk => pkV_fr (by omega)
          have hRS2 := RS_ap hRS (Or.inl rfl) (SQ_app 0 S (2, m_dfl 2)) (by decide) hfr hSl.1
          refine y_n0 ?_
          refine y_st (lv' := [(7, .ref S.length), (6, iv 1), (5, iv (z_rf t h y o)), (0, .ref 0), (1, iv t), (2, iv h), (3, iv y), (4, iv o)]) rfl rfl (fun d => rfl) ?_
          refine y_ld (x := iv 1) rfl rfl (fun d => rfl) ?_
          refine y_zne rfl rfl rfl (by decide) (fun g9 => ?_) (fun g9 => absurd g9 (by decide))
          refine y_ld (x := .ref 0) rfl rfl (fun d => rfl) ?_
          refine y_gR (i := 0) rfl rfl rfl (hCp 0 _ _ rfl) rfl ?_
          refine y_gR (i := 8) rfl rfl rfl (hCp 1 _ _ rfl) rfl ?_
          refine y_ld (x := .ref 0) rfl rfl (fun d => rfl) ?_
          refine y_gR (i := 0) rfl rfl rfl (hCp 0 _ _ rfl) rfl ?_
          refine y_gI (i := 9) (e := (n : Int)) rfl rfl rfl (hCp 1 _ _ rfl) rfl ((congrFun (pkV_1 hSl.1) 9).trans hn) ?_
          refine y_ld (x := .ref S.length) rfl rfl (fun d => rfl) ?_
          have h6c : ce (S ++ [(2, m_dfl 2)]) 6 24 wa := ce_app hwa
          refine y_rst (i := n) rfl rfl h6c (by decide) (by omega) (by omega) (by omega) (Or.inr ⟨S.length, _, rfl, hp⟩) ?_
          have hCq : ClF ((S ++ [(2, m_dfl 2)]).set 6 (24, wa.set n (.ref S.length))) := cl_set hCp (by decide)
          refine y_ld (x := .ref 0) rfl rfl (fun d => rfl) ?_
          refine y_gR (i := 0) rfl rfl rfl (hCq 0 _ _ rfl) rfl ?_
          refine y_in rfl rfl (fun d => rfl) ?_
          refine y_gI (i := 9) (e := (n : Int)) rfl rfl rfl (hCq 1 _ _ rfl) rfl ((congrFun (pkV_1 hSl.1) 9).trans hn) ?_
          refine y_ic rfl rfl ?_
          refine y_add (z := ((n : Int) + 1)) rfl rfl rfl ?_
          refine y_pI (i := 9) rfl rfl rfl (hCq 1 _ _ rfl) rfl rfl ?_
          refine y_bi rfl rfl (by decide) ?_
          refine y_rI rfl (Or.inl rfl) ?_
          exact k3 (by assumption) (by omega) hd (by omega)
        · refine y_bi rfl rfl (by decide) ?_
          refine y_rI rfl (Or.inl rfl) ?_
          exact k2 (by assumption) (by omega) hd (by omega)
    · refine y_bi rfl rfl (by decide) ?_
      refine y_rI rfl (Or.inl rfl) ?_
      exact k1 (by assumption) (by omega)
  · refine y_ld (x := iv (z_rf t h y o)) rfl rfl (fun d => rfl) ?_
    refine y_rI rfl (Or.inl rfl) ?_
    exact k0 (by assumption)
set_option maxRecDepth 100000 in
set_option maxHeartbeats 4000000 in
theorem lp_release (hC : ClF S) {tl : Nat → List p_Li} {cnt : Nat} {wa : List Value} (hwa : ce S 6 24 wa) {N : Int} (hN : 0 ≤ N ∧ N ≤ 20) {F : Nat} : ∀ (m : Nat) (r i : Nat) (σ : Nat → Int) (W : v_V), r < m → (RS S W 1 σ tl) → (SO cnt σ) → (∀ i : Nat, (i : Int) < σ 0 → TO (tl i)) → (((i + r : Nat) : Int) = N) → (PkA S W wa 20 N σ 1690) → (∀ j : Nat, i ≤ j → j < i + r → pkO (σ (1690 + 4 * j)) (σ (1690 + 4 * j + 1)) (σ (1690 + 4 * j + 2)) (σ (1690 + 4 * j + 3))) → (∀ V2, RS S V2 1 (rlS tl r i σ) tl → FrW W V2 → K u w (some (iv N)) S V2) → y_E X 7 83 (60 * m + F) u w 49 [(0, .ref 0), (1, iv N), (2, iv (i : Int))] [] S W K := by
  intro m
  induction m with
  | zero => intros; omega
  | succ m ih =>
    intro r i σ W hm hRS hSO hTO hir hWA hPO hx2
    refine y_mono (F' := (60 * m + F) + 60) ?_ (by omega)
    refine y_ld (x := iv (i : Int)) rfl rfl (fun d => rfl) ?_
    refine y_ld (x := iv N) rfl rfl (fun d => rfl) ?_
    refine y_jge rfl rfl rfl (by omega) (fun g1 => ?_) (fun g1 => ?_)
    · refine y_ld (x := iv N) rfl rfl (fun d => rfl) ?_
      refine y_rI rfl (Or.inl rfl) ?_
      obtain rfl : r = 0 := by omega
      exact hx2 W hRS (FrW_rf W)
    · obtain ⟨r, rfl⟩ : ∃ e, r = e + 1 := ⟨r - 1, by omega⟩
      obtain ⟨pk, c1, c2, c3⟩ := hWA.2.2 i (by omega)
      have hpk := hPO i (by omega) (by omega)
      have hss := sgS_SO (cnt := cnt) (tl := tl) (h := σ (1690 + 4 * i + 1)) (k := σ (1690 + 4 * i + 2)) (n := σ (1690 + 4 * i + 3)) hpk.1 (σ 2).toNat 0 σ hSO hTO (by have := hSO.1; omega)
      refine y_ld (x := .ref 0) rfl rfl (fun d => rfl) ?_
      refine y_gR (i := 0) rfl rfl rfl (hC 0 _ _ rfl) rfl ?_
      refine y_ld (x := .ref 0) rfl rfl (fun d => rfl) ?_
      refine y_gR (i := 0) rfl rfl rfl (hC 0 _ _ rfl) rfl ?_
      refine y_gR (i := 8) rfl rfl rfl (hC 1 _ _ rfl) rfl ?_
      refine y_ld (x := iv (i : Int)) rfl rfl (fun d => rfl) ?_
      refine y_rld (i := i) (x := pk) rfl rfl hwa (by decide) (by omega) (by omega) c1 ?_
      refine y_cV (as := [.ref 1, .ref pk]) rfl rfl rfl rfl rfl (hC 1 _ _ rfl) ⟨rfl, (Nat.le_of_ble_eq_true rfl), (Nat.le_of_ble_eq_true rfl)⟩ (by decide) (cc_pass (σ := σ) (tl := tl) (cnt := cnt) hC c2 hpk hRS hSO hTO c3 (fun V2 a1 a2 => ?_))
      refine y_nv ?_
      refine y_in rfl rfl (fun d => rfl) ?_
      refine y_inc (z := ((i + 1 : Nat) : Int)) (lv' := [(2, iv ((i + 1 : Nat) : Int)), (0, .ref 0), (1, iv N)]) rfl rfl rfl (by omega) rfl ?_
      refine y_go rfl rfl ?_
      refine y_lv (l' := [(0, .ref 0), (1, iv N), (2, iv ((i + 1 : Nat) : Int))]) rfl ⟨rfl, rfl, rfl, trivial⟩ ?_
      have es := hss.2.1
      refine y_mono (ih r (i + 1) (sgS tl (σ (1690 + 4 * i)) (σ (1690 + 4 * i + 1)) (σ (1690 + 4 * i + 2)) (σ (1690 + 4 * i + 3)) (σ 2).toNat 0 σ).2 V2 (by omega) a1 hss.1 (by rw [es 0 (by omega)]; exact hTO) (by omega) (PkA_fr hWA (SQ_rf 0 S) (by decide) (fun k _ _ _ _ hk _ => FrW_hi a2 k (by omega)) (Int.le_refl _) (fun j hj q hq => es _ (by omega))) (fun j h2 h3 => by rw [es _ (by omega), es _ (by omega), es _ (by omega), es _ (by omega)]; exact hPO j (by omega) (by omega)) (fun V3 b1 b2 => hx2 V3 b1 (FrW_tr a2 b2))) (by omega)
set_option maxRecDepth 100000 in
set_option maxHeartbeats 4000000 in
theorem cs_release (hC : ClF S) (hSl : 193 ≤ S.length ∧ S.length + 7 < 1000000) {tl : Nat → List p_Li} {cnt : Nat} {σ : Nat → Int} (hRS : RS S V 1 σ tl) (hSO : SO cnt σ) (hTO : ∀ i : Nat, (i : Int) < σ 0 → TO (tl i)) {wa : List Value} (hwa : ce S 6 24 wa) (hWA : PkA S V wa 20 (σ 3) σ 1690) (k0 : σ 2 = 0 ∧ 0 < σ 3 → K u w (some (iv (-3))) S V) (k1 : ¬ (σ 2 = 0 ∧ 0 < σ 3) → ∀ V2, RS S V2 1 (rlS tl (σ 3).toNat 0 (relS σ)) tl → FrW (v_up (v_up V 1 10 0) 1 9 0) V2 → K u w (some (iv (σ 3))) S V2) : y_R X 8 83 u w [.ref 0] S V K := by
  obtain ⟨n1, n2, n3, n4⟩ := hRS.1
  have hsz := hSO.1
  have n5 : V 1 9 = σ 3 := by omega
  refine y_ent (lv' := [(0, .ref 0)]) (Nat.le_of_ble_eq_true rfl) rfl ?_
  refine y_ld (x := .ref 0) rfl rfl (fun d => rfl) ?_
  refine y_gR (i := 0) rfl rfl rfl (hC 0 _ _ rfl) rfl ?_
  refine y_gI (i := 7) (e := (V 1 7)) rfl rfl rfl (hC 1 _ _ rfl) rfl rfl ?_
  refine y_zne rfl rfl rfl (by omega) (fun g1 => ?_) (fun g1 => ?_)
  · refine y_ld (x := .ref 0) rfl rfl (fun d => rfl) ?_
    refine y_gR (i := 0) rfl rfl rfl (hC 0 _ _ rfl) rfl ?_
    refine y_gI (i := 9) (e := (V 1 9)) rfl rfl rfl (hC 1 _ _ rfl) rfl rfl ?_
    refine y_st (lv' := [(1, iv (V 1 9)), (0, .ref 0)]) rfl rfl (fun d => rfl) ?_
    refine y_ld (x := .ref 0) rfl rfl (fun d => rfl) ?_
    refine y_gR (i := 0) rfl rfl rfl (hC 0 _ _ rfl) rfl ?_
    refine y_ic rfl rfl ?_
    refine y_pI (i := 10) rfl rfl rfl (hC 1 _ _ rfl) rfl rfl ?_
    refine y_ld (x := .ref 0) rfl rfl (fun d => rfl) ?_
    refine y_gR (i := 0) rfl rfl rfl (hC 0 _ _ rfl) rfl ?_
    refine y_ic rfl rfl ?_
    refine y_pI (i := 9) rfl rfl rfl (hC 1 _ _ rfl) rfl rfl ?_
    refine y_ic rfl rfl ?_
    refine y_st (lv' := [(2, iv 0), (1, iv (V 1 9)), (0, .ref 0)]) rfl rfl (fun d => rfl) ?_
    refine y_lv (l' := [(0, .ref 0), (1, iv (σ 3)), (2, iv ((0 : Nat) : Int))]) rfl ⟨rfl, congrArg (fun e => some (iv e)) n5, rfl, trivial⟩ ?_
    have er : ∀ j, j ≠ 3 ∧ j ≠ 4 → relS σ j = σ j := fun j hj => relS_ne hj
    have ef : ∀ k, k ≠ 1 → v_up (v_up V 1 10 0) 1 9 0 k = V k := fun k hk => by rw [v_up_ne hk, v_up_ne hk]
    exact y_mono (lp_release (F := 100) hC hwa (by omega) 21 (σ 3).toNat 0 (relS σ) _ (by omega) (RS_rel hRS hSO) (relS_SO hSO) (by rw [er 0 (by omega)]; exact hTO) (by omega) (PkA_fr hWA (SQ_rf 0 S) (by decide) (fun k _ _ _ _ hk _ => ef k (by omega)) (Int.le_refl _) (fun j hj q hq => er _ (by omega))) (fun j h2 h3 => by rw [er _ (by omega), er _ (by omega), er _ (by omega), er _ (by omega)]; exact hSO.2.2.2.2.2.1 j (by omega)) (k1 (by omega))) (by decide)
  · refine y_ld (x := .ref 0) rfl rfl (fun d => rfl) ?_
    refine y_gR (i := 0) rfl rfl rfl (hC 0 _ _ rfl) rfl ?_
    refine y_gI (i := 9) (e := (V 1 9)) rfl rfl rfl (hC 1 _ _ rfl) rfl rfl ?_
    refine y_zle rfl rfl rfl (by omega) (fun g2 => ?_) (fun g2 => ?_)
    · refine y_ld (x := .ref 0) rfl rfl (fun d => rfl) ?_
      refine y_gR (i := 0) rfl rfl rfl (hC 0 _ _ rfl) rfl ?_
      refine y_gI (i := 9) (e := (V 1 9)) rfl rfl rfl (hC 1 _ _ rfl) rfl rfl ?_
      refine y_st (lv' := [(1, iv (V 1 9)), (0, .ref 0)]) rfl rfl (fun d => rfl) ?_
      refine y_ld (x := .ref 0) rfl rfl (fun d => rfl) ?_
      refine y_gR (i := 0) rfl rfl rfl (hC 0 _ _ rfl) rfl ?_
      refine y_ic rfl rfl ?_
      refine y_pI (i := 10) rfl rfl rfl (hC 1 _ _ rfl) rfl rfl ?_
      refine y_ld (x := .ref 0) rfl rfl (fun d => rfl) ?_
      refine y_gR (i := 0) rfl rfl rfl (hC 0 _ _ rfl) rfl ?_
      refine y_ic rfl rfl ?_
      refine y_pI (i := 9) rfl rfl rfl (hC 1 _ _ rfl) rfl rfl ?_
      refine y_ic rfl rfl ?_
      refine y_st (lv' := [(2, iv 0), (1, iv (V 1 9)), (0, .ref 0)]) rfl rfl (fun d => rfl) ?_
      refine y_lv (l' := [(0, .ref 0), (1, iv (σ 3)), (2, iv ((0 : Nat) : Int))]) rfl ⟨rfl, congrArg (fun e => some (iv e)) n5, rfl, trivial⟩ ?_
      have er : ∀ j, j ≠ 3 ∧ j ≠ 4 → relS σ j = σ j := fun j hj => relS_ne hj
      have ef : ∀ k, k ≠ 1 → v_up (v_up V 1 10 0) 1 9 0 k = V k := fun k hk => by rw [v_up_ne hk, v_up_ne hk]
      exact y_mono (lp_release (F := 100) hC hwa (by omega) 21 (σ 3).toNat 0 (relS σ) _ (by omega) (RS_rel hRS hSO) (relS_SO hSO) (by rw [er 0 (by omega)]; exact hTO) (by omega) (PkA_fr hWA (SQ_rf 0 S) (by decide) (fun k _ _ _ _ hk _ => ef k (by omega)) (Int.le_refl _) (fun j hj q hq => er _ (by omega))) (fun j h2 h3 => by rw [er _ (by omega), er _ (by omega), er _ (by omega), er _ (by omega)]; exact hSO.2.2.2.2.2.1 j (by omega)) (k1 (by omega))) (by decide)
    · refine y_bi rfl rfl (by decide) ?_
      refine y_rI rfl (Or.inl rfl) ?_
      exact k0 (by omega)
end
end
section
/-! work, send, release: the reference -/
def FrM (V V2 : v_V) : Prop := (∀ k, k ≠ 170 → k ≠ 171 → k ≠ 179 → V2 k = V k) ∧ ∀ i, i ≠ 21 → i ≠ 22 → i ≠ 23 → V2 170 i = V 170 i
def FrP (V V2 : v_V) : Prop := (∀ k, k ≠ 170 → k ≠ 171 → k ≠ 179 → V2 k = V k) ∧ ∀ i, i < 17 ∨ 23 < i → V2 170 i = V 170 i
theorem FrM_rf (V : v_V) : FrM V V := ⟨fun _ _ _ _ => rfl, fun _ _ _ _ => rfl⟩
theorem FrM_tr {V V' V'' : v_V} (h : FrM V V') (h2 : FrM V' V'') : FrM V V'' := ⟨fun k a b c => (h2.1 k a b c).trans (h.1 k a b c), fun i a b c => (h2.2 i a b c).trans (h.2 i a b c)⟩
theorem FrP_rf (V : v_V) : FrP V V := ⟨fun _ _ _ _ => rfl, fun _ _ => rfl⟩
theorem FrP_tr {V V' V'' : v_V} (h : FrP V V') (h2 : FrP V' V'') : FrP V V'' := ⟨fun k a b c => (h2.1 k a b c).trans (h.1 k a b c), fun i a => (h2.2 i a).trans (h.2 i a)⟩
theorem FrP_M {V V' : v_V} (h : FrM V V') : FrP V V' := ⟨h.1, fun i hi => h.2 i (by omega) (by omega) (by omega)⟩
theorem MT_r {V V' : v_V} {i : Nat} {l : List p_Li} (h : MT V i l) (e : ∀ k, k ≠ 170 → k ≠ 171 → k ≠ 179 → V' k = V k) : MT V' i l := by
  obtain ⟨a1, a2, a3, a4, a5⟩ := h
  refine ⟨by rw [e 174 (by decide) (by decide) (by decide)]; exact a1, ?_, by rw [e 175 (by decide) (by decide) (by decide)]; exact a3, ?_, ?_⟩
  · rw [e 173 (by decide) (by decide) (by decide)]; exact a2
  · unfold AM
    rw [e 176 (by decide) (by decide) (by decide)]; exact a4
  · rw [e 177 (by decide) (by decide) (by decide)]; exact a5
abbrev pkU (V : v_V) (t h y o : Int) : v_V := v_up (v_up (v_up (v_up V 170 17 t) 170 18 h) 170 19 y) 170 20 o
theorem pkU_fr (V : v_V) (t h y o : Int) : FrP V (pkU V t h y o) := by
  refine ⟨fun k a b c => ?_, fun i hi => ?_⟩
  · unfold pkU
    rw [v_up_ne a, v_up_ne a, v_up_ne a, v_up_ne a]
  · unfold pkU
    rw [v_up_ni (by omega), v_up_ni (by omega), v_up_ni (by omega), v_up_ni (by omega)]
theorem pkU_171 (V : v_V) (t h y o : Int) (k : Nat) (hk : k ≠ 170) : pkU V t h y o k = V k := by
  unfold pkU
  rw [v_up_ne hk, v_up_ne hk, v_up_ne hk, v_up_ne hk]
theorem pkU_pk (V : v_V) (t h y o : Int) : PkM (pkU V t h y o) t h y o := by
  refine ⟨?_, ?_, ?_, ?_⟩
  · unfold pkU
    rw [v_up_ni (by decide), v_up_ni (by decide), v_up_ni (by decide), v_up_eq]
  · unfold pkU
    rw [v_up_ni (by decide), v_up_ni (by decide), v_up_eq]
  · unfold pkU
    rw [v_up_ni (by decide), v_up_eq]
  · unfold pkU
    rw [v_up_eq]
section
variable {X : Nat → List Int32} {u w : Nat} {S : m_H} {V : v_V} {K : v_K}
set_option maxRecDepth 100000 in
set_option maxHeartbeats 4000000 in
theorem ct_packet (hM : MdS S) {t h y o : Int} (k : K u w none S (pkU V t h y o)) : y_R X 1 133 u w [.ref 170, iv t, iv h, iv y, iv o] S V K := by
  refine y_ent (lv' := [(0, .ref 170), (1, iv t), (2, iv h), (3, iv y), (4, iv o)]) (Nat.le_of_ble_eq_true rfl) rfl ?_
  refine y_ld (x := .ref 170) rfl rfl (fun d => rfl) ?_
  refine y_ld (x := iv t) rfl rfl (fun d => rfl) ?_
  refine y_pI (i := 17) rfl rfl rfl (md170 hM) rfl rfl ?_
  refine y_ld (x := .ref 170) rfl rfl (fun d => rfl) ?_
  refine y_ld (x := iv h) rfl rfl (fun d => rfl) ?_
  refine y_pI (i := 18) rfl rfl rfl (md170 hM) rfl rfl ?_
  refine y_ld (x := .ref 170) rfl rfl (fun d => rfl) ?_
  refine y_ld (x := iv y) rfl rfl (fun d => rfl) ?_
  refine y_pI (i := 19) rfl rfl rfl (md170 hM) rfl rfl ?_
  refine y_ld (x := .ref 170) rfl rfl (fun d => rfl) ?_
  refine y_ld (x := iv o) rfl rfl (fun d => rfl) ?_
  refine y_pI (i := 20) rfl rfl rfl (md170 hM) rfl rfl ?_
  refine y_ret rfl (fun d => rfl) ?_
  exact k
set_option maxRecDepth 100000 in
set_option maxHeartbeats 4000000 in
theorem ct_worksBox (hM : MdS S) {tl : Nat → List p_Li} {cnt : Nat} {a h κ n : Int} (hpk : pkO a h κ n) (hP : PkM V a h κ n) (hSO : SO cnt (V 171)) {b : Nat} (hb : b < 8) (hbn : (b : Int) < V 171 1) (hMT : MT V (V 171 (178 + b)).toNat (tl (V 171 (178 + b)).toNat)) (hl : TO (tl (V 171 (178 + b)).toNat)) (k : ∀ V2, V2 171 = (sgW tl (V 171) b a h κ n).2 → FrM V V2 → K u w (some (iv (sgW tl (V 171) b a h κ n).1)) S V2) : y_R X 7 134 u w [.ref 170, iv (b : Int)] S V K := by
  have hb3 := hSO.2.2.1 b hb
  have hb5 := hb3.2.2.2.2.1
  have hb6 := hb3.2.1
  have hsz := hSO.1
  have hbx := hb6.2.2 hbn
  refine y_ent (lv' := [(0, .ref 170), (1, iv (b : Int))]) (Nat.le_of_ble_eq_true rfl) rfl ?_
  refine y_ld (x := .ref 170) rfl rfl (fun d => rfl) ?_
  refine y_ic rfl rfl ?_
  refine y_pZ (i := 21) rfl rfl rfl (md170 hM) rfl rfl (by decide) ?_
  refine y_ld (x := .ref 170) rfl rfl (fun d => rfl) ?_
  refine y_si rfl rfl (by decide) ?_
  refine y_bi rfl rfl (by decide) ?_
  refine y_ld (x := iv (b : Int)) rfl rfl (fun d => rfl) ?_
  refine y_mul (z := (84 * (b : Int))) rfl rfl rfl ?_
  refine y_add (z := ((200 + 84 * b : Nat) : Int)) rfl rfl (by omega) ?_
  refine y_pI (i := 22) rfl rfl rfl (md170 hM) rfl rfl ?_
  refine y_ld (x := .ref 170) rfl rfl (fun d => rfl) ?_
  refine y_ld (x := .ref 170) rfl rfl (fun d => rfl) ?_
  refine y_gR (i := 1) rfl rfl rfl (md170 hM) rfl ?_
  refine y_si rfl rfl (by decide) ?_
  refine y_ld (x := iv (b : Int)) rfl rfl (fun d => rfl) ?_
  refine y_add (z := (178 + (b : Int))) rfl rfl rfl ?_
  refine y_ild (x := (((V 171 (178 + b)).toNat : Nat) : Int)) (q := (178 + b)) rfl rfl (md171 hM) (by omega) (by decide) (by omega) (by rw [v_up_ne (by decide), v_up_ne (by decide)]; omega) ?_
  have e1 : (v_up (v_up V 170 21 0) 170 22 ((200 + 84 * b : Nat) : Int)) 171 = V 171 := ((v_up_ne (by decide)).trans (v_up_ne (by decide)))
  refine y_cV (as := [.ref 170, iv (((V 171 (178 + b)).toNat : Nat) : Int)]) rfl rfl rfl rfl rfl (md170 hM) ⟨rfl, (Nat.le_of_ble_eq_true rfl), (Nat.le_of_ble_eq_true rfl)⟩ (by decide) (ct_works (A := 171) (B := 200 + 84 * b) (i := (V 171 (178 + b)).toNat) (l := tl (V 171 (178 + b)).toNat) hM ⟨v_up_eq _ _ _ _, Or.inl ⟨(v_up_ni (by decide)).trans (v_up_eq _ _ _ _), rfl, by omega⟩⟩ (PkM_r hP (fun i _ _ => (v_up_ni (by omega)).trans (v_up_ni (by omega)))) hpk (Or.inl rfl) (by rw [e1]; exact hb5) (by omega) (MT_r hMT (fun k q1 _ _ => by rw [v_up_ne q1, v_up_ne q1])) hl.2.2.2.1 hl.2.2.1 hl.1 hl.2.1 (fun τ => ?_))
  rw [e1]
  refine y_nv ?_
  refine y_st (lv' := [(2, iv ((eW a h κ n (tl (V 171 (178 + b)).toNat) (zm (V 171) (200 + 84 * b))).1)), (0, .ref 170), (1, iv (b : Int))]) rfl rfl (fun d => rfl) ?_
  refine y_ld (x := .ref 170) rfl rfl (fun d => rfl) ?_
  refine y_gR (i := 1) rfl rfl rfl (md170 hM) rfl ?_
  refine y_si rfl rfl (by decide) ?_
  refine y_ld (x := iv (b : Int)) rfl rfl (fun d => rfl) ?_
  refine y_add (z := (186 + (b : Int))) rfl rfl rfl ?_
  refine y_ld (x := .ref 170) rfl rfl (fun d => rfl) ?_
  refine y_gI (i := 23) (e := (eL (zm (V 171) (200 + 84 * b)) a h κ n 0 (tl (V 171 (178 + b)).toNat))) rfl rfl rfl (md170 hM) rfl rfl ?_
  refine y_ist (q := (186 + b)) rfl rfl (md171 hM) (by omega) (by decide) (by omega) ?_
  refine y_ld (x := iv ((eW a h κ n (tl (V 171 (178 + b)).toNat) (zm (V 171) (200 + 84 * b))).1)) rfl rfl (fun d => rfl) ?_
  refine y_rI rfl (Or.inl rfl) ?_
  refine k _ ((v_up_row _ _ _ _).trans (by rw [v_ur_eq]; rfl)) ⟨fun k q1 q2 q3 => ?_, fun i q1 q2 q3 => ?_⟩
  · rw [v_up_ne q2, v_ur_ne q2, v_up_ne q1, v_ur_ne q3, v_up_ne q1, v_up_ne q1]
  · rw [v_up_ne (by decide), v_ur_ne (by decide), v_up_ni q3, v_ur_ne (by decide), v_up_ni q2, v_up_ni q1]
set_option maxRecDepth 100000 in
set_option maxHeartbeats 4000000 in
theorem lp_sends (hM : MdS S) {tl : Nat → List p_Li} {cnt : Nat} {a h κ n : Int} (hpk : pkO a h κ n) {F : Nat} : ∀ (m : Nat) (r q : Nat) (W : v_V), r < m → (SO cnt (W 171)) → (∀ i : Nat, (i : Int) < W 171 0 → TO (tl i)) → (∀ i : Nat, (i : Int) < W 171 0 → MT W i (tl i)) → (((q + r : Nat) : Int) = W 171 2) → (PkM W a h κ n) → (∀ V2, V2 171 = (sgS tl a h κ n r q (W 171)).2 → FrM W V2 → K u w (some (iv (sgS tl a h κ n r q (W 171)).1)) S V2) → y_E X 7 143 (60 * m + F) u w 2 [(0, .ref 170), (1, iv (q : Int))] [] S W K := by
  intro m
  induction m with
  | zero => intros; omega
  | succ m ih =>
    intro r q W hm hSO hTO hMTs hqr hP hx2
    refine y_mono (F' := (60 * m + F) + 60) ?_ (by omega)
    refine y_ld (x := iv (q : Int)) rfl rfl (fun d => rfl) ?_
    refine y_ld (x := .ref 170) rfl rfl (fun d => rfl) ?_
    refine y_gR (i := 1) rfl rfl rfl (md170 hM) rfl ?_
    refine y_ic rfl rfl ?_
    refine y_ild (x := (W 171 2)) (q := 2) rfl rfl (md171 hM) (by decide) (by decide) rfl rfl ?_
    refine y_jge rfl rfl rfl (by have := hSO.1; omega) (fun g1 => ?_) (fun g1 => ?_)
    · refine y_bi rfl rfl (by decide) ?_
      refine y_ld (x := .ref 170) rfl rfl (fun d => rfl) ?_
      refine y_gR (i := 1) rfl rfl rfl (md170 hM) rfl ?_
      refine y_ic rfl rfl ?_
      refine y_ild (x := (W 171 2)) (q := 2) rfl rfl (md171 hM) (by decide) (by decide) rfl rfl ?_
      refine y_mul (z := (10 * (W 171 2))) rfl rfl rfl ?_
      refine y_ic rfl rfl ?_
      refine y_add (z := ((10 * (W 171 2)) + 1)) rfl rfl rfl ?_
      refine y_rI rfl (Or.inl rfl) ?_
      obtain rfl : r = 0 := by have := hSO.1; omega
      have e7 : 10 * W 171 2 + 1 = (sgS tl a h κ n 0 q (W 171)).1 := by show _ = 10 * (q : Int) + 1; have := hSO.1; omega
      rw [e7]
      exact hx2 W rfl (FrM_rf W)
    · have hsz := hSO.1
      obtain ⟨r, rfl⟩ : ∃ e, r = e + 1 := ⟨r - 1, by omega⟩
      have hpo := hpk
      obtain ⟨p1, p2, p3, p4⟩ := hpo
      obtain ⟨w1, w2, w3, w4, w5⟩ := wBox_lt hSO (q := q) (by omega) p1
      have hr5 := hSO.2.2.2.2.1 q (by omega)
      have hx2t := (hSO.2.2.1 (wBox (W 171) q a) w3).2.1
      have hTx := hx2t.2.2 w4
      have hl := hTO (W 171 (178 + (wBox (W 171) q a))).toNat (by omega)
      have hso := sgW_SO (tl := tl) (t := a) (h := h) (k := κ) (n := n) hSO w3 hl.2.2.1
      have hwl : ∀ j, j < 186 ∨ (194 ≤ j ∧ j < 200) ∨ 872 ≤ j → (sgW tl (W 171) (wBox (W 171) q a) a h κ n).2 j = W 171 j := fun j hj => sgW_lt hj w3
      have e2 := hwl 2 (by omega)
      have e0 := hwl 0 (by omega)
      refine y_ld (x := .ref 170) rfl rfl (fun d => rfl) ?_
      refine y_ld (x := .ref 170) rfl rfl (fun d => rfl) ?_
      refine y_gR (i := 1) rfl rfl rfl (md170 hM) rfl ?_
      refine y_si rfl rfl (by decide) ?_
      refine y_bi rfl rfl (by decide) ?_
      refine y_ld (x := .ref 170) rfl rfl (fun d => rfl) ?_
      refine y_gR (i := 1) rfl rfl rfl (md170 hM) rfl ?_
      refine y_si rfl rfl (by decide) ?_
      refine y_ld (x := iv (q : Int)) rfl rfl (fun d => rfl) ?_
      refine y_add (z := (1680 + (q : Int))) rfl rfl rfl ?_
      refine y_ild (x := (W 171 (1680 + q))) (q := (1680 + q)) rfl rfl (md171 hM) (by omega) (by decide) (by omega) rfl ?_
      refine y_mul (z := (16 * (W 171 (1680 + q)))) rfl rfl rfl ?_
      refine y_add (z := (1552 + (16 * (W 171 (1680 + q))))) rfl rfl rfl ?_
      refine y_ld (x := .ref 170) rfl rfl (fun d => rfl) ?_
      refine y_gI (i := 17) (e := a) rfl rfl rfl (md170 hM) rfl hP.1 ?_
      refine y_add (z := ((1552 + (16 * (W 171 (1680 + q)))) + a)) rfl rfl rfl ?_
      refine y_ild (x := (((wBox (W 171) q a) : Nat) : Int)) (q := (1552 + 16 * (W 171 (1680 + q)).toNat + a.toNat)) rfl rfl (md171 hM) (by omega) (by decide) (by omega) w5 ?_
      refine y_cV (as := [.ref 170, iv (((wBox (W 171) q a) : Nat) : Int)]) rfl rfl rfl rfl rfl (md170 hM) ⟨rfl, (Nat.le_of_ble_eq_true rfl), (Nat.le_of_ble_eq_true rfl)⟩ (by decide) (ct_worksBox hM hpk hP hSO w3 w4 (hMTs _ (by omega)) hl (fun V2 a1 a2 => ?_))
      refine y_nv ?_
      refine y_st (lv' := [(2, iv ((sgW tl (W 171) (wBox (W 171) q a) a h κ n).1)), (0, .ref 170), (1, iv (q : Int))]) rfl rfl (fun d => rfl) ?_
      refine y_ld (x := iv ((sgW tl (W 171) (wBox (W 171) q a) a h κ n).1)) rfl rfl (fun d => rfl) ?_
      refine y_ic rfl rfl ?_
      refine y_jeq rfl rfl rfl (by omega) (fun g2 => ?_) (fun g2 => ?_)
      · refine y_inc (z := ((q + 1 : Nat) : Int)) (lv' := [(1, iv ((q + 1 : Nat) : Int)), (2, iv ((sgW tl (W 171) (wBox (W 171) q a) a h κ n).1)), (0, .ref 170)]) rfl rfl rfl (by omega) rfl ?_
        refine y_go rfl rfl ?_
        refine y_lv (l' := [(0, .ref 170), (1, iv ((q + 1 : Nat) : Int))]) rfl ⟨rfl, rfl, trivial⟩ ?_
        rw [show sgS tl a h κ n (r + 1) q (W 171) = sgS tl a h κ n r (q + 1) (sgW tl (W 171) (wBox (W 171) q a) a h κ n).2 from if_pos (by omega), ← a1] at hx2
        exact y_mono (ih r (q + 1) V2 (by omega) (by rw [a1]; exact hso.1) (by rw [a1, e0]; exact hTO) (by rw [a1, e0]; exact fun i hi => MT_r (hMTs i hi) a2.1) (by rw [a1, e2]; omega) (PkM_r hP (fun i _ _ => a2.2 i (by omega) (by omega) (by omega))) (fun V3 b1 b2 => hx2 V3 b1 (FrM_tr a2 b2))) (by omega)
      · refine y_bi rfl rfl (by decide) ?_
        refine y_ld (x := iv (q : Int)) rfl rfl (fun d => rfl) ?_
        refine y_mul (z := (10 * (q : Int))) rfl rfl rfl ?_
        refine y_ld (x := iv ((sgW tl (W 171) (wBox (W 171) q a) a h κ n).1)) rfl rfl (fun d => rfl) ?_
        refine y_add (z := ((10 * (q : Int)) + ((sgW tl (W 171) (wBox (W 171) q a) a h κ n).1))) rfl rfl rfl ?_
        refine y_rI rfl (Or.inl rfl) ?_
        rw [show sgS tl a h κ n (r + 1) q (W 171) = (10 * (q : Int) + (sgW tl (W 171) (wBox (W 171) q a) a h κ n).1, (sgW tl (W 171) (wBox (W 171) q a) a h κ n).2) from if_neg (by omega)] at hx2
        exact hx2 _ a1 a2
set_option maxRecDepth 100000 in
set_option maxHeartbeats 4000000 in
theorem ct_sends (hM : MdS S) {tl : Nat → List p_Li} {cnt : Nat} {a h κ n : Int} (hpk : pkO a h κ n) (hP : PkM V a h κ n) (hSO : SO cnt (V 171)) (hTO : ∀ i : Nat, (i : Int) < V 171 0 → TO (tl i)) (hMTs : ∀ i : Nat, (i : Int) < V 171 0 → MT V i (tl i)) (k : ∀ V2, V2 171 = (sgS tl a h κ n (V 171 2).toNat 0 (V 171)).2 → FrM V V2 → K u w (some (iv (sgS tl a h κ n (V 171 2).toNat 0 (V 171)).1)) S V2) : y_R X 8 143 u w [.ref 170] S V K := by
  refine y_ent (lv' := [(0, .ref 170)]) (Nat.le_of_ble_eq_true rfl) rfl ?_
  refine y_ic rfl rfl ?_
  refine y_st (lv' := [(1, iv 0), (0, .ref 170)]) rfl rfl (fun d => rfl) ?_
  refine y_lv (l' := [(0, .ref 170), (1, iv ((0 : Nat) : Int))]) rfl ⟨rfl, rfl, trivial⟩ ?_
  exact y_mono (lp_sends (F := 100) hM hpk 7 (V 171 2).toNat 0 V (by have := hSO.1; omega) hSO hTO hMTs (by have := hSO.1; omega) hP k) (by decide)
set_option maxRecDepth 100000 in
set_option maxHeartbeats 4000000 in
theorem ms_work (hM : MdS S) {tl : Nat → List p_Li} {cnt : Nat} (hSO : SO cnt (V 171)) (hTO : ∀ i : Nat, (i : Int) < V 171 0 → TO (tl i)) (hMTs : ∀ i : Nat, (i : Int) < V 171 0 → MT V i (tl i)) {x : Int} (hx : (-2147483648 ≤ x ∧ x < 2147483648)) {t : Int} (ht : (-2147483648 ≤ t ∧ t < 2147483648)) {h : Int} (hh1 : (-2147483648 ≤ h ∧ h < 2147483648)) {y : Int} (hy : (-2147483648 ≤ y ∧ y < 2147483648)) {o : Int} (ho : (-2147483648 ≤ o ∧ o < 2147483648)) (k0 : ¬ (0 ≤ x ∧ x < V 171 1) → K u w (some (iv (-1))) S V) (k1 : 0 ≤ x ∧ x < V 171 1 → ¬ z_rf t h y o = 0 → K u w (some (iv (z_rf t h y o))) S V) (k2 : 0 ≤ x ∧ x < V 171 1 → z_rf t h y o = 0 → ∀ V2, V2 171 = (sgW tl (V 171) x.toNat t h y o).2 → FrP V V2 → K u w (some (iv (sgW tl (V 171) x.toNat t h y o).1)) S V2) : y_R X 8 137 u w [.ref 170, iv x, iv t, iv h, iv y, iv o] S V K := by
  have hsz := hSO.1
  have hB : 0 ≤ V 171 1 ∧ V 171 1 ≤ 8 := by omega
  refine y_ent (lv' := [(0, .ref 170), (1, iv x), (2, iv t), (3, iv h), (4, iv y), (5, iv o)]) (Nat.le_of_ble_eq_true rfl) rfl ?_
  refine y_ld (x := .ref 170) rfl rfl (fun d => rfl) ?_
  refine y_ld (x := iv x) rfl rfl (fun d => rfl) ?_
  refine y_cV (as := [.ref 170, iv x]) rfl rfl rfl rfl rfl (md170 hM) ⟨rfl, (Nat.le_of_ble_eq_true rfl), (Nat.le_of_ble_eq_true rfl)⟩ (by decide) (ct_isBox hM (by omega) ⟨rfl, by omega⟩ ?_)
  refine y_nv ?_
  refine y_beq rfl rfl rfl (fun g1 => ?_) (fun g1 => ?_)
  · refine y_ic rfl rfl ?_
    refine y_rI rfl (Or.inl rfl) ?_
    by_cases hxb : 0 ≤ x ∧ x < V 171 1
    · have e : z_rf t h y o = -1 := if_neg (by omega)
      have := k1 hxb (by omega)
      rwa [e] at this
    · exact k0 hxb
  · refine y_ld (x := iv t) rfl rfl (fun d => rfl) ?_
    refine y_ld (x := iv h) rfl rfl (fun d => rfl) ?_
    refine y_ld (x := iv y) rfl rfl (fun d => rfl) ?_
    refine y_cS (as := [iv t, iv h, iv y]) rfl (by decide) rfl rfl rfl rfl ⟨(Nat.le_of_ble_eq_true rfl), (Nat.le_of_ble_eq_true rfl)⟩ (by decide) (ct_isPacket (by omega) ?_)
    refine y_nv ?_
    refine y_bne rfl rfl rfl (fun g2 => ?_) (fun g2 => ?_)
    · refine y_ld (x := iv o) rfl rfl (fun d => rfl) ?_
      refine y_ic rfl rfl ?_
      refine y_bi rfl rfl (by decide) ?_
      refine y_cS (as := [iv o, iv 0, iv 99]) rfl (by decide) rfl rfl rfl rfl ⟨(Nat.le_of_ble_eq_true rfl), (Nat.le_of_ble_eq_true rfl)⟩ (by decide) (ct_in (by omega) ?_)
      refine y_nv ?_
      refine y_bne rfl rfl rfl (fun g3 => ?_) (fun g3 => ?_)
      · refine y_ld (x := .ref 170) rfl rfl (fun d => rfl) ?_
        refine y_ld (x := iv t) rfl rfl (fun d => rfl) ?_
        refine y_ld (x := iv h) rfl rfl (fun d => rfl) ?_
        refine y_ld (x := iv y) rfl rfl (fun d => rfl) ?_
        refine y_ld (x := iv o) rfl rfl (fun d => rfl) ?_
        refine y_cV (as := [.ref 170, iv t, iv h, iv y, iv o]) rfl rfl rfl rfl rfl (md170 hM) ⟨rfl, (Nat.le_of_ble_eq_true rfl), (Nat.le_of_ble_eq_true rfl)⟩ (by decide) (ct_packet hM ?_)
        have hrf : z_rf t h y o = 0 := by unfold z_rf; rw [if_pos (by omega), if_pos (by omega)]
        have hpk := rf_pkO hrf
        have e171 : pkU V t h y o 171 = V 171 := pkU_171 V t h y o 171 (by decide)
        refine y_n0 ?_
        refine y_ld (x := .ref 170) rfl rfl (fun d => rfl) ?_
        refine y_ld (x := iv x) rfl rfl (fun d => rfl) ?_
        refine y_iv (e' := ((x.toNat : Nat) : Int)) (by omega) ?_
        have hb8 : x.toNat < 8 := by omega
        have hTx := (hSO.2.2.1 x.toNat hb8).2.1
        have hTy := hTx.2.2 (by omega)
        refine y_cV (as := [.ref 170, iv ((x.toNat : Nat) : Int)]) rfl rfl rfl rfl rfl (md170 hM) ⟨rfl, (Nat.le_of_ble_eq_true rfl), (Nat.le_of_ble_eq_true rfl)⟩ (by decide) (ct_worksBox (b := x.toNat) hM hpk (pkU_pk V t h y o) (by rw [e171]; exact hSO) hb8 (by rw [e171]; omega) (by rw [e171]; exact MT_r (hMTs _ (by omega)) (fun k q _ _ => pkU_171 V t h y o k q)) (by rw [e171]; exact hTO _ (by omega)) (fun V2 a1 a2 => ?_))
        rw [e171] at a1 ⊢
        refine y_nv ?_
        refine y_rI rfl (Or.inl rfl) ?_
        exact k2 (by omega) hrf V2 a1 (FrP_tr (pkU_fr V t h y o) (FrP_M a2))
      · refine y_bi rfl rfl (by decide) ?_
        refine y_rI rfl (Or.inl rfl) ?_
        have e : z_rf t h y o = -2 := by unfold z_rf; rw [if_pos (by omega), if_neg (by omega)]
        have := k1 (by omega) (by omega)
        rwa [e] at this
    · refine y_ic rfl rfl ?_
      refine y_rI rfl (Or.inl rfl) ?_
      by_cases hxb : 0 ≤ x ∧ x < V 171 1
      · have e : z_rf t h y o = -1 := if_neg (by omega)
        have := k1 hxb (by omega)
        rwa [e] at this
      · exact k0 hxb
set_option maxRecDepth 100000 in
set_option maxHeartbeats 4000000 in
theorem ms_send (hM : MdS S) {tl : Nat → List p_Li} {cnt : Nat} (hSO : SO cnt (V 171)) (hTO : ∀ i : Nat, (i : Int) < V 171 0 → TO (tl i)) (hMTs : ∀ i : Nat, (i : Int) < V 171 0 → MT V i (tl i)) {t : Int} (ht : (-2147483648 ≤ t ∧ t < 2147483648)) {h : Int} (hh1 : (-2147483648 ≤ h ∧ h < 2147483648)) {y : Int} (hy : (-2147483648 ≤ y ∧ y < 2147483648)) {o : Int} (ho : (-2147483648 ≤ o ∧ o < 2147483648)) {n : Nat} (hn : V 171 3 = (n : Int)) (k0 : ¬ z_rf t h y o = 0 → K u w (some (iv (z_rf t h y o))) S V) (k1 : z_rf t h y o = 0 → V 171 2 = 0 → K u w (some (iv (-3))) S V) (k2 : z_rf t h y o = 0 → ¬ V 171 2 = 0 → V 171 4 / 2 ^ t.toNat % 2 = 1 → 20 ≤ (n : Int) → K u w (some (iv (-4))) S V) (k3 : z_rf t h y o = 0 → ¬ V 171 2 = 0 → V 171 4 / 2 ^ t.toNat % 2 = 1 → (n : Int) < 20 → K u w (some (iv (-6))) S (v_up (v_up (v_up (v_up (v_up V 171 (1690 + 4 * n) t) 171 (1690 + 4 * n + 1) h) 171 (1690 + 4 * n + 2) y) 171 (1690 + 4 * n + 3) o) 171 3 ((n : Int) + 1))) (k4 : z_rf t h y o = 0 → ¬ V 171 2 = 0 → V 171 4 / 2 ^ t.toNat % 2 = 0 → ∀ V2, V2 171 = (sgS tl t h y o (V 171 2).toNat 0 (V 171)).2 → FrP V V2 → K u w (some (iv (sgS tl t h y o (V 171 2).toNat 0 (V 171)).1)) S V2) : y_R X 9 144 u w [.ref 170, iv t, iv h, iv y, iv o] S V K := by
  have hsz := hSO.1
  have hB : 0 ≤ V 171 1 ∧ V 171 1 ≤ 8 := by omega
  refine y_ent (lv' := [(0, .ref 170), (1, iv t), (2, iv h), (3, iv y), (4, iv o)]) (Nat.le_of_ble_eq_true rfl) rfl ?_
  refine y_ld (x := iv t) rfl rfl (fun d => rfl) ?_
  refine y_ld (x := iv h) rfl rfl (fun d => rfl) ?_
  refine y_ld (x := iv y) rfl rfl (fun d => rfl) ?_
  refine y_cS (as := [iv t, iv h, iv y]) rfl (by decide) rfl rfl rfl rfl ⟨(Nat.le_of_ble_eq_true rfl), (Nat.le_of_ble_eq_true rfl)⟩ (by decide) (ct_isPacket (by omega) ?_)
  refine y_nv ?_
  refine y_bne rfl rfl rfl (fun g1 => ?_) (fun g1 => ?_)
  · refine y_ld (x := iv o) rfl rfl (fun d => rfl) ?_
    refine y_ic rfl rfl ?_
    refine y_bi rfl rfl (by decide) ?_
    refine y_cS (as := [iv o, iv 0, iv 99]) rfl (by decide) rfl rfl rfl rfl ⟨(Nat.le_of_ble_eq_true rfl), (Nat.le_of_ble_eq_true rfl)⟩ (by decide) (ct_in (by omega) ?_)
    refine y_nv ?_
    refine y_bne rfl rfl rfl (fun g2 => ?_) (fun g2 => ?_)
    · refine y_ld (x := .ref 170) rfl rfl (fun d => rfl) ?_
      refine y_gR (i := 1) rfl rfl rfl (md170 hM) rfl ?_
      refine y_ic rfl rfl ?_
      refine y_ild (x := (V 171 2)) (q := 2) rfl rfl (md171 hM) (by decide) (by decide) rfl rfl ?_
      refine y_zne rfl rfl rfl (by omega) (fun g3 => ?_) (fun g3 => ?_)
      · refine y_ld (x := .ref 170) rfl rfl (fun d => rfl) ?_
        refine y_gR (i := 1) rfl rfl rfl (md170 hM) rfl ?_
        refine y_ic rfl rfl ?_
        refine y_ild (x := (V 171 4)) (q := 4) rfl rfl (md171 hM) (by decide) (by decide) rfl rfl ?_
        refine y_ld (x := iv t) rfl rfl (fun d => rfl) ?_
        refine y_op (z := (V 171 4 / 2 ^ t.toNat)) rfl rfl (fun d => rfl) (v_shr (by omega) (by omega)) ?_
        refine y_ic rfl rfl ?_
        refine y_op (z := (V 171 4 / 2 ^ t.toNat % 2)) rfl rfl (fun d => rfl) (v_and1 (Int.ediv_nonneg (by omega) (Int.le_of_lt (v_p2 _)))) ?_
        refine y_ic rfl rfl ?_
        have hb01 := v_bit01 (V 171 4) t.toNat
        refine y_jne rfl rfl rfl (by omega) (fun g4 => ?_) (fun g4 => ?_)
        · refine y_ld (x := .ref 170) rfl rfl (fun d => rfl) ?_
          refine y_ld (x := iv t) rfl rfl (fun d => rfl) ?_
          refine y_ld (x := iv h) rfl rfl (fun d => rfl) ?_
          refine y_ld (x := iv y) rfl rfl (fun d => rfl) ?_
          refine y_ld (x := iv o) rfl rfl (fun d => rfl) ?_
          refine y_cV (as := [.ref 170, iv t, iv h, iv y, iv o]) rfl rfl rfl rfl rfl (md170 hM) ⟨rfl, (Nat.le_of_ble_eq_true rfl), (Nat.le_of_ble_eq_true rfl)⟩ (by decide) (ct_packet hM ?_)
          have hrf : z_rf t h y o = 0 := by unfold z_rf; rw [if_pos (by omega), if_pos (by omega)]
          have hpk := rf_pkO hrf
          have e171 : pkU V t h y o 171 = V 171 := pkU_171 V t h y o 171 (by decide)
          refine y_n0 ?_
          refine y_ld (x := .ref 170) rfl rfl (fun d => rfl) ?_
          refine y_cV (as := [.ref 170]) rfl rfl rfl rfl rfl (md170 hM) ⟨rfl, (Nat.le_of_ble_eq_true rfl), (Nat.le_of_ble_eq_true rfl)⟩ (by decide) (ct_sends hM hpk (pkU_pk V t h y o) (by rw [e171]; exact hSO) (by rw [e171]; exact hTO) (by rw [e171]; exact fun i hi => MT_r (hMTs i hi) (fun k q _ _ => pkU_171 V t h y o k q)) (fun V2 a1 a2 => ?_))
          rw [e171] at a1 ⊢
          refine y_nv ?_
          refine y_rI rfl (Or.inl rfl) ?_
          exact k4 hrf (by omega) (by omega) V2 a1 (FrP_tr (pkU_fr V t h y o) (FrP_M a2))
        · refine y_ld (x := .ref 170) rfl rfl (fun d => rfl) ?_
          refine y_gR (i := 1) rfl rfl rfl (md170 hM) rfl ?_
          refine y_ic rfl rfl ?_
          refine y_ild (x := (n : Int)) (q := 3) rfl rfl (md171 hM) (by decide) (by decide) rfl hn ?_
          refine y_bi rfl rfl (by decide) ?_
          refine y_jne rfl rfl rfl (by omega) (fun g5 => ?_) (fun g5 => ?_)
          · refine y_si rfl rfl (by decide) ?_
            refine y_ic rfl rfl ?_
            refine y_ld (x := .ref 170) rfl rfl (fun d => rfl) ?_
            refine y_gR (i := 1) rfl rfl rfl (md170 hM) rfl ?_
            refine y_ic rfl rfl ?_
            refine y_ild (x := (n : Int)) (q := 3) rfl rfl (md171 hM) (by decide) (by decide) rfl hn ?_
            refine y_mul (z := (4 * (n : Int))) rfl rfl rfl ?_
            refine y_add (z := (1690 + (4 * (n : Int)))) rfl rfl rfl ?_
            refine y_st (lv' := [(5, iv (1690 + (4 * (n : Int)))), (0, .ref 170), (1, iv t), (2, iv h), (3, iv y), (4, iv o)]) rfl rfl (fun d => rfl) ?_
            refine y_ld (x := .ref 170) rfl rfl (fun d => rfl) ?_
            refine y_gR (i := 1) rfl rfl rfl (md170 hM) rfl ?_
            refine y_ld (x := iv (1690 + (4 * (n : Int)))) rfl rfl (fun d => rfl) ?_
            refine y_ld (x := iv t) rfl rfl (fun d => rfl) ?_
            refine y_ist (q := (1690 + 4 * n)) rfl rfl (md171 hM) (by omega) (by decide) (by omega) ?_
            refine y_ld (x := .ref 170) rfl rfl (fun d => rfl) ?_
            refine y_gR (i := 1) rfl rfl rfl (md170 hM) rfl ?_
            refine y_ld (x := iv (1690 + (4 * (n : Int)))) rfl rfl (fun d => rfl) ?_
            refine y_ic rfl rfl ?_
            refine y_add (z := ((1690 + (4 * (n : Int))) + 1)) rfl rfl rfl ?_
            refine y_ld (x := iv h) rfl rfl (fun d => rfl) ?_
            refine y_ist (q := (1690 + 4 * n + 1)) rfl rfl (md171 hM) (by omega) (by decide) (by omega) ?_
            refine y_ld (x := .ref 170) rfl rfl (fun d => rfl) ?_
            refine y_gR (i := 1) rfl rfl rfl (md170 hM) rfl ?_
            refine y_ld (x := iv (1690 + (4 * (n : Int)))) rfl rfl (fun d => rfl) ?_
            refine y_ic rfl rfl ?_
            refine y_add (z := ((1690 + (4 * (n : Int))) + 2)) rfl rfl rfl ?_
            refine y_ld (x := iv y) rfl rfl (fun d => rfl) ?_
            refine y_ist (q := (1690 + 4 * n + 2)) rfl rfl (md171 hM) (by omega) (by decide) (by omega) ?_
            refine y_ld (x := .ref 170) rfl rfl (fun d => rfl) ?_
            refine y_gR (i := 1) rfl rfl rfl (md170 hM) rfl ?_
            refine y_ld (x := iv (1690 + (4 * (n : Int)))) rfl rfl (fun d => rfl) ?_
            refine y_ic rfl rfl ?_
            refine y_add (z := ((1690 + (4 * (n : Int))) + 3)) rfl rfl rfl ?_
            refine y_ld (x := iv o) rfl rfl (fun d => rfl) ?_
            refine y_ist (q := (1690 + 4 * n + 3)) rfl rfl (md171 hM) (by omega) (by decide) (by omega) ?_
            refine y_ld (x := .ref 170) rfl rfl (fun d => rfl) ?_
            refine y_gR (i := 1) rfl rfl rfl (md170 hM) rfl ?_
            refine y_ic rfl rfl ?_
            refine y_in rfl rfl (fun d => rfl) ?_
            refine y_ild (x := (n : Int)) (q := 3) rfl rfl (md171 hM) (by decide) (by decide) rfl (by rw [v_up_ni (by omega), v_up_ni (by omega), v_up_ni (by omega), v_up_ni (by omega)]; exact hn) ?_
            refine y_ic rfl rfl ?_
            refine y_add (z := ((n : Int) + 1)) rfl rfl rfl ?_
            refine y_ist (q := 3) rfl rfl (md171 hM) (by decide) (by decide) rfl ?_
            refine y_bi rfl rfl (by decide) ?_
            refine y_rI rfl (Or.inl rfl) ?_
            have hrf : z_rf t h y o = 0 := by unfold z_rf; rw [if_pos (by omega), if_pos (by omega)]
            exact k3 hrf (by omega) (by omega) (by omega)
          · refine y_bi rfl rfl (by decide) ?_
            refine y_rI rfl (Or.inl rfl) ?_
            have hrf : z_rf t h y o = 0 := by unfold z_rf; rw [if_pos (by omega), if_pos (by omega)]
            exact k2 hrf (by omega) (by omega) (by omega)
      · refine y_bi rfl rfl (by decide) ?_
        refine y_rI rfl (Or.inl rfl) ?_
        have hrf : z_rf t h y o = 0 := by unfold z_rf; rw [if_pos (by omega), if_pos (by omega)]
        exact k1 hrf (by omega)
    · refine y_bi rfl rfl (by decide) ?_
      refine y_rI rfl (Or.inl rfl) ?_
      have e : z_rf t h y o = -2 := by unfold z_rf; rw [if_pos (by omega), if_neg (by omega)]
      have := k0 (by omega)
      rwa [e] at this
  · refine y_ic rfl rfl ?_
    refine y_rI rfl (Or.inl rfl) ?_
    have e : z_rf t h y o = -1 := if_neg (by omega)
    have := k0 (by omega)
    rwa [e] at this
set_option maxRecDepth 100000 in
set_option maxHeartbeats 4000000 in
theorem lp_rel (hM : MdS S) {tl : Nat → List p_Li} {cnt : Nat} {N : Int} (hN : 0 ≤ N ∧ N ≤ 20) {F : Nat} : ∀ (m : Nat) (r i : Nat) (W : v_V), r < m → (SO cnt (W 171)) → (∀ i : Nat, (i : Int) < W 171 0 → TO (tl i)) → (∀ i : Nat, (i : Int) < W 171 0 → MT W i (tl i)) → (((i + r : Nat) : Int) = N) → (∀ j : Nat, i ≤ j → j < i + r → pkO (W 171 (1690 + 4 * j)) (W 171 (1690 + 4 * j + 1)) (W 171 (1690 + 4 * j + 2)) (W 171 (1690 + 4 * j + 3))) → (∀ V2, V2 171 = rlS tl r i (W 171) → FrP W V2 → K u w (some (iv N)) S V2) → y_E X 8 149 (100 * m + F) u w 39 [(0, .ref 170), (1, iv N), (2, iv (i : Int))] [] S W K := by
  intro m
  induction m with
  | zero => intros; omega
  | succ m ih =>
    intro r i W hm hSO hTO hMTs hir hPO hx2
    refine y_mono (F' := (100 * m + F) + 100) ?_ (by omega)
    refine y_ld (x := iv (i : Int)) rfl rfl (fun d => rfl) ?_
    refine y_ld (x := iv N) rfl rfl (fun d => rfl) ?_
    refine y_jge rfl rfl rfl (by omega) (fun g1 => ?_) (fun g1 => ?_)
    · refine y_ld (x := iv N) rfl rfl (fun d => rfl) ?_
      refine y_rI rfl (Or.inl rfl) ?_
      obtain rfl : r = 0 := by omega
      exact hx2 W rfl (FrP_rf W)
    · obtain ⟨r, rfl⟩ : ∃ e, r = e + 1 := ⟨r - 1, by omega⟩
      have hpk := hPO i (by omega) (by omega)
      have hsz := hSO.1
      have hss := sgS_SO (cnt := cnt) (tl := tl) (h := W 171 (1690 + 4 * i + 1)) (k := W 171 (1690 + 4 * i + 2)) (n := W 171 (1690 + 4 * i + 3)) hpk.1 (W 171 2).toNat 0 (W 171) hSO hTO (by omega)
      have e171 : pkU W (W 171 (1690 + 4 * i)) (W 171 (1690 + 4 * i + 1)) (W 171 (1690 + 4 * i + 2)) (W 171 (1690 + 4 * i + 3)) 171 = W 171 := pkU_171 W _ _ _ _ 171 (by decide)
      refine y_si rfl rfl (by decide) ?_
      refine y_ic rfl rfl ?_
      refine y_ld (x := iv (i : Int)) rfl rfl (fun d => rfl) ?_
      refine y_mul (z := (4 * (i : Int))) rfl rfl rfl ?_
      refine y_add (z := (1690 + (4 * (i : Int)))) rfl rfl rfl ?_
      refine y_st (lv' := [(3, iv (1690 + (4 * (i : Int)))), (0, .ref 170), (1, iv N), (2, iv (i : Int))]) rfl rfl (fun d => rfl) ?_
      refine y_ld (x := .ref 170) rfl rfl (fun d => rfl) ?_
      refine y_ld (x := .ref 170) rfl rfl (fun d => rfl) ?_
      refine y_gR (i := 1) rfl rfl rfl (md170 hM) rfl ?_
      refine y_ld (x := iv (1690 + (4 * (i : Int)))) rfl rfl (fun d => rfl) ?_
      refine y_ild (x := (W 171 (1690 + 4 * i))) (q := (1690 + 4 * i)) rfl rfl (md171 hM) (by omega) (by decide) (by omega) rfl ?_
      refine y_ld (x := .ref 170) rfl rfl (fun d => rfl) ?_
      refine y_gR (i := 1) rfl rfl rfl (md170 hM) rfl ?_
      refine y_ld (x := iv (1690 + (4 * (i : Int)))) rfl rfl (fun d => rfl) ?_
      refine y_ic rfl rfl ?_
      refine y_add (z := ((1690 + (4 * (i : Int))) + 1)) rfl rfl rfl ?_
      refine y_ild (x := (W 171 (1690 + 4 * i + 1))) (q := (1690 + 4 * i + 1)) rfl rfl (md171 hM) (by omega) (by decide) (by omega) rfl ?_
      refine y_ld (x := .ref 170) rfl rfl (fun d => rfl) ?_
      refine y_gR (i := 1) rfl rfl rfl (md170 hM) rfl ?_
      refine y_ld (x := iv (1690 + (4 * (i : Int)))) rfl rfl (fun d => rfl) ?_
      refine y_ic rfl rfl ?_
      refine y_add (z := ((1690 + (4 * (i : Int))) + 2)) rfl rfl rfl ?_
      refine y_ild (x := (W 171 (1690 + 4 * i + 2))) (q := (1690 + 4 * i + 2)) rfl rfl (md171 hM) (by omega) (by decide) (by omega) rfl ?_
      refine y_ld (x := .ref 170) rfl rfl (fun d => rfl) ?_
      refine y_gR (i := 1) rfl rfl rfl (md170 hM) rfl ?_
      refine y_ld (x := iv (1690 + (4 * (i : Int)))) rfl rfl (fun d => rfl) ?_
      refine y_ic rfl rfl ?_
      refine y_add (z := ((1690 + (4 * (i : Int))) + 3)) rfl rfl rfl ?_
      refine y_ild (x := (W 171 (1690 + 4 * i + 3))) (q := (1690 + 4 * i + 3)) rfl rfl (md171 hM) (by omega) (by decide) (by omega) rfl ?_
      refine y_cV (as := [.ref 170, iv (W 171 (1690 + 4 * i)), iv (W 171 (1690 + 4 * i + 1)), iv (W 171 (1690 + 4 * i + 2)), iv (W 171 (1690 + 4 * i + 3))]) rfl rfl rfl rfl rfl (md170 hM) ⟨rfl, (Nat.le_of_ble_eq_true rfl), (Nat.le_of_ble_eq_true rfl)⟩ (by decide) (ct_packet hM ?_)
      refine y_n0 ?_
      refine y_ld (x := .ref 170) rfl rfl (fun d => rfl) ?_
      refine y_cV (as := [.ref 170]) rfl rfl rfl rfl rfl (md170 hM) ⟨rfl, (Nat.le_of_ble_eq_true rfl), (Nat.le_of_ble_eq_true rfl)⟩ (by decide) (ct_sends hM hpk (pkU_pk W _ _ _ _) (by rw [e171]; exact hSO) (by rw [e171]; exact hTO) (by rw [e171]; exact fun i hi => MT_r (hMTs i hi) (fun k q _ _ => pkU_171 W _ _ _ _ k q)) (fun V2 a1 a2 => ?_))
      rw [e171] at a1 ⊢
      refine y_nv ?_
      refine y_st (lv' := [(4, iv ((sgS tl (W 171 (1690 + 4 * i)) (W 171 (1690 + 4 * i + 1)) (W 171 (1690 + 4 * i + 2)) (W 171 (1690 + 4 * i + 3)) (W 171 2).toNat 0 (W 171)).1)), (3, iv (1690 + (4 * (i : Int)))), (0, .ref 170), (1, iv N), (2, iv (i : Int))]) rfl rfl (fun d => rfl) ?_
      refine y_inc (z := ((i + 1 : Nat) : Int)) (lv' := [(2, iv ((i + 1 : Nat) : Int)), (4, iv ((sgS tl (W 171 (1690 + 4 * i)) (W 171 (1690 + 4 * i + 1)) (W 171 (1690 + 4 * i + 2)) (W 171 (1690 + 4 * i + 3)) (W 171 2).toNat 0 (W 171)).1)), (3, iv (1690 + (4 * (i : Int)))), (0, .ref 170), (1, iv N)]) rfl rfl rfl (by omega) rfl ?_
      refine y_go rfl rfl ?_
      refine y_lv (l' := [(0, .ref 170), (1, iv N), (2, iv ((i + 1 : Nat) : Int))]) rfl ⟨rfl, rfl, rfl, trivial⟩ ?_
      have es := hss.2.1
      have fr := FrP_tr (pkU_fr W (W 171 (1690 + 4 * i)) (W 171 (1690 + 4 * i + 1)) (W 171 (1690 + 4 * i + 2)) (W 171 (1690 + 4 * i + 3))) (FrP_M a2)
      rw [show rlS tl (r + 1) i (W 171) = rlS tl r (i + 1) (sgS tl (W 171 (1690 + 4 * i)) (W 171 (1690 + 4 * i + 1)) (W 171 (1690 + 4 * i + 2)) (W 171 (1690 + 4 * i + 3)) (W 171 2).toNat 0 (W 171)).2 from rfl, ← a1] at hx2
      refine y_mono (ih r (i + 1) V2 (by omega) (by rw [a1]; exact hss.1) (by rw [a1, es 0 (by omega)]; exact hTO) (by rw [a1, es 0 (by omega)]; exact fun i hi => MT_r (hMTs i hi) fr.1) (by omega) (fun j h2 h3 => by rw [a1, es _ (by omega), es _ (by omega), es _ (by omega), es _ (by omega)]; exact hPO j (by omega) (by omega)) (fun V3 b1 b2 => hx2 V3 b1 (FrP_tr fr b2))) (by omega)
set_option maxRecDepth 100000 in
set_option maxHeartbeats 4000000 in
theorem ms_release (hM : MdS S) {tl : Nat → List p_Li} {cnt : Nat} (hSO : SO cnt (V 171)) (hTO : ∀ i : Nat, (i : Int) < V 171 0 → TO (tl i)) (hMTs : ∀ i : Nat, (i : Int) < V 171 0 → MT V i (tl i)) (k0 : V 171 2 = 0 ∧ 0 < V 171 3 → K u w (some (iv (-3))) S V) (k1 : ¬ (V 171 2 = 0 ∧ 0 < V 171 3) → ∀ V2, V2 171 = rlS tl (V 171 3).toNat 0 (relS (V 171)) → FrP V V2 → K u w (some (iv (V 171 3))) S V2) : y_R X 9 149 u w [.ref 170] S V K := by
  have hsz := hSO.1
  have hB : 0 ≤ V 171 1 ∧ V 171 1 ≤ 8 := by omega
  refine y_ent (lv' := [(0, .ref 170)]) (Nat.le_of_ble_eq_true rfl) rfl ?_
  refine y_ld (x := .ref 170) rfl rfl (fun d => rfl) ?_
  refine y_gR (i := 1) rfl rfl rfl (md170 hM) rfl ?_
  refine y_ic rfl rfl ?_
  refine y_ild (x := (V 171 3)) (q := 3) rfl rfl (md171 hM) (by decide) (by decide) rfl rfl ?_
  refine y_st (lv' := [(1, iv (V 171 3)), (0, .ref 170)]) rfl rfl (fun d => rfl) ?_
  refine y_ld (x := .ref 170) rfl rfl (fun d => rfl) ?_
  refine y_gR (i := 1) rfl rfl rfl (md170 hM) rfl ?_
  refine y_ic rfl rfl ?_
  refine y_ild (x := (V 171 2)) (q := 2) rfl rfl (md171 hM) (by decide) (by decide) rfl rfl ?_
  refine y_zne rfl rfl rfl (by omega) (fun g1 => ?_) (fun g1 => ?_)
  · refine y_ld (x := .ref 170) rfl rfl (fun d => rfl) ?_
    refine y_gR (i := 1) rfl rfl rfl (md170 hM) rfl ?_
    refine y_ic rfl rfl ?_
    refine y_ic rfl rfl ?_
    refine y_ist (q := 4) rfl rfl (md171 hM) (by decide) (by decide) rfl ?_
    refine y_ld (x := .ref 170) rfl rfl (fun d => rfl) ?_
    refine y_gR (i := 1) rfl rfl rfl (md170 hM) rfl ?_
    refine y_ic rfl rfl ?_
    refine y_ic rfl rfl ?_
    refine y_ist (q := 3) rfl rfl (md171 hM) (by decide) (by decide) rfl ?_
    refine y_ic rfl rfl ?_
    refine y_st (lv' := [(2, iv 0), (1, iv (V 171 3)), (0, .ref 170)]) rfl rfl (fun d => rfl) ?_
    refine y_lv (l' := [(0, .ref 170), (1, iv (V 171 3)), (2, iv ((0 : Nat) : Int))]) rfl ⟨rfl, rfl, rfl, trivial⟩ ?_
    refine y_V (V' := v_ur V 171 (relS (V 171))) (by rw [v_up_ur, v_up_ur, v_ur_ur, v_ur_eq]; rfl) ?_
    have er : ∀ j, j ≠ 3 ∧ j ≠ 4 → relS (V 171) j = V 171 j := fun j hj => relS_ne hj
    have e1 : v_ur V 171 (relS (V 171)) 171 = relS (V 171) := v_ur_eq _ _ _
    have fr : FrP V (v_ur V 171 (relS (V 171))) := ⟨fun k _ q _ => v_ur_ne q, fun i _ => by rw [v_ur_ne (by decide)]⟩
    exact y_mono (lp_rel (F := 100) hM (by omega) 21 (V 171 3).toNat 0 (v_ur V 171 (relS (V 171))) (by omega) (by rw [e1]; exact relS_SO hSO) (by rw [e1, er 0 (by omega)]; exact hTO) (by rw [e1, er 0 (by omega)]; exact fun i hi => MT_r (hMTs i hi) fr.1) (by omega) (fun j h2 h3 => by rw [e1, er _ (by omega), er _ (by omega), er _ (by omega), er _ (by omega)]; exact hSO.2.2.2.2.2.1 j (by omega)) (fun V2 b1 b2 => k1 (by omega) V2 (by rw [b1, e1]) (FrP_tr fr b2))) (by decide)
  · refine y_ld (x := iv (V 171 3)) rfl rfl (fun d => rfl) ?_
    refine y_zle rfl rfl rfl (by omega) (fun g2 => ?_) (fun g2 => ?_)
    · refine y_ld (x := .ref 170) rfl rfl (fun d => rfl) ?_
      refine y_gR (i := 1) rfl rfl rfl (md170 hM) rfl ?_
      refine y_ic rfl rfl ?_
      refine y_ic rfl rfl ?_
      refine y_ist (q := 4) rfl rfl (md171 hM) (by decide) (by decide) rfl ?_
      refine y_ld (x := .ref 170) rfl rfl (fun d => rfl) ?_
      refine y_gR (i := 1) rfl rfl rfl (md170 hM) rfl ?_
      refine y_ic rfl rfl ?_
      refine y_ic rfl rfl ?_
      refine y_ist (q := 3) rfl rfl (md171 hM) (by decide) (by decide) rfl ?_
      refine y_ic rfl rfl ?_
      refine y_st (lv' := [(2, iv 0), (1, iv (V 171 3)), (0, .ref 170)]) rfl rfl (fun d => rfl) ?_
      refine y_lv (l' := [(0, .ref 170), (1, iv (V 171 3)), (2, iv ((0 : Nat) : Int))]) rfl ⟨rfl, rfl, rfl, trivial⟩ ?_
      refine y_V (V' := v_ur V 171 (relS (V 171))) (by rw [v_up_ur, v_up_ur, v_ur_ur, v_ur_eq]; rfl) ?_
      have er : ∀ j, j ≠ 3 ∧ j ≠ 4 → relS (V 171) j = V 171 j := fun j hj => relS_ne hj
      have e1 : v_ur V 171 (relS (V 171)) 171 = relS (V 171) := v_ur_eq _ _ _
      have fr : FrP V (v_ur V 171 (relS (V 171))) := ⟨fun k _ q _ => v_ur_ne q, fun i _ => by rw [v_ur_ne (by decide)]⟩
      exact y_mono (lp_rel (F := 100) hM (by omega) 21 (V 171 3).toNat 0 (v_ur V 171 (relS (V 171))) (by omega) (by rw [e1]; exact relS_SO hSO) (by rw [e1, er 0 (by omega)]; exact hTO) (by rw [e1, er 0 (by omega)]; exact fun i hi => MT_r (hMTs i hi) fr.1) (by omega) (fun j h2 h3 => by rw [e1, er _ (by omega), er _ (by omega), er _ (by omega), er _ (by omega)]; exact hSO.2.2.2.2.2.1 j (by omega)) (fun V2 b1 b2 => k1 (by omega) V2 (by rw [b1, e1]) (FrP_tr fr b2))) (by decide)
    · refine y_bi rfl rfl (by decide) ?_
      refine y_rI rfl (Or.inl rfl) ?_
      exact k0 (by omega)
end
end
section
/-! part, whole, fall: the class -/
def ptA (g q : Int) : Int := if q = 1 then (if 1 < g then g - 2 else -5) else (if 1 < g then 2 else if g = 0 then 0 else 1)
abbrev gP (l : List p_Li) (c : Nat) : Int := mkP 0 (fun _ => 0) l c
theorem gP_rg {l : List p_Li} (h : TO l) {c : Nat} (hc : c < 8) : 0 ≤ gP l c ∧ gP l c ≤ 10 := mkP_bd l 0 _ (by decide) (by have := h.2.2.1; omega) h.1 (fun _ _ => ⟨Int.le_refl 0, by decide⟩) c hc
/-- WHOLE: the first one's TALKS, and sums -/
def whP (σ : Nat → Int) (a b c : Nat) : Prop := (∀ p : Nat, p < 64 → σ (200 + 84 * c + p) = σ (200 + 84 * (σ (1552 + 16 * a + p / 4)).toNat + p)) ∧ ∀ p : Nat, 64 ≤ p → p < 84 → σ (200 + 84 * c + p) = wr (σ (200 + 84 * a + p) + σ (200 + 84 * b + p))
/-- TAKEN UP: the bits of the TALKS that are as in the COPY -/
def tuP (σ : Nat → Int) (b t : Nat) : Prop := ∀ d : Nat, d < 4 → σ (200 + 84 * b + (4 * t + d)) = σ (880 + 84 * b + (4 * t + d))
theorem v_o2_lt16 {x : Int} (hx : 0 ≤ x ∧ x < 65536) {c : Nat} (hc : c < 16) : 0 ≤ v_o2 x c ∧ v_o2 x c < 65536 := by
  have h : x.toNat ||| 2 ^ c < 2 ^ 16 := Nat.or_lt_two_pow (by omega) (Nat.pow_lt_pow_right (by decide) hc)
  unfold v_o2
  omega
theorem v_bits_ext {x y : Int} (hx : 0 ≤ x ∧ x < 65536) (hy : 0 ≤ y ∧ y < 65536) (h : ∀ t : Nat, t < 16 → x / 2 ^ t % 2 = y / 2 ^ t % 2) : x = y := by
  have e : x.toNat = y.toNat := by
    apply Nat.eq_of_testBit_eq
    intro i
    by_cases hi : i < 16
    · have h2 := h i hi
      rw [v_bitI hx.1, v_bitI hy.1] at h2
      cases h3 : x.toNat.testBit i <;> cases h4 : y.toNat.testBit i <;> first | rfl | (rw [h3, h4] at h2; exact absurd h2 (by decide))
    · have p1 : 2 ^ 16 ≤ 2 ^ i := Nat.pow_le_pow_right (by decide) (by omega)
      rw [Nat.testBit_lt_two_pow (show x.toNat < 2 ^ i by omega), Nat.testBit_lt_two_pow (show y.toNat < 2 ^ i by omega)]
  omega
section
variable {X : Nat → List Int32} {u w : Nat} {S : m_H} {V : v_V} {K : v_K}
set_option maxRecDepth 100000 in
set_option maxHeartbeats 4000000 in
theorem cs_part (hC : ClF S) {tl : Nat → List p_Li} {cnt : Nat} {σ : Nat → Int} (hRS : RS S V 1 σ tl) (hSO : SO cnt σ) (hTO : ∀ i : Nat, (i : Int) < σ 0 → TO (tl i)) {x : Int} (hx : (-2147483648 ≤ x ∧ x < 2147483648)) {y : Int} (hy : (-2147483648 ≤ y ∧ y < 2147483648)) {d : Int} (hd : (-2147483648 ≤ d ∧ d < 2147483648)) {q : Int} (hq : (-2147483648 ≤ q ∧ q < 2147483648)) (k0 : ¬ ((0 ≤ x ∧ x < σ 0) ∧ (0 ≤ y ∧ y ≤ 1) ∧ (0 ≤ d ∧ d ≤ 3) ∧ (0 ≤ q ∧ q ≤ 1)) → K u w (some (iv (-1))) S V) (k1 : (0 ≤ x ∧ x < σ 0) ∧ (0 ≤ y ∧ y ≤ 1) ∧ (0 ≤ d ∧ d ≤ 3) ∧ (0 ≤ q ∧ q ≤ 1) → K u w (some (iv (ptA (gP (tl x.toNat) (y * 4 + d).toNat) q))) S V) : y_R X 2 73 u w [.ref 0, iv x, iv y, iv d, iv q] S V K := by
  obtain ⟨n1, n2, n3, n4⟩ := hRS.1
  have hsz := hSO.1
  obtain ⟨ta, hT, hTt⟩ := TAx_RT hRS.2.1 hRS.1 hSO
  refine y_ent (lv' := [(0, .ref 0), (1, iv x), (2, iv y), (3, iv d), (4, iv q)]) (Nat.le_of_ble_eq_true rfl) rfl ?_
  refine y_ld (x := .ref 0) rfl rfl (fun d => rfl) ?_
  refine y_gR (i := 0) rfl rfl rfl (hC 0 _ _ rfl) rfl ?_
  refine y_ld (x := iv x) rfl rfl (fun d => rfl) ?_
  refine y_cV (as := [.ref 1, iv x]) rfl rfl rfl rfl rfl (hC 1 _ _ rfl) ⟨rfl, (Nat.le_of_ble_eq_true rfl), (Nat.le_of_ble_eq_true rfl)⟩ (by decide) (cb_textAt (x := x) hC hT (by omega) (fun gt1 => ?_) (fun (t1 : Nat) gt1 ht11 ht21 ht31 => ?_))
  · refine y_nv ?_
    refine y_st (lv' := [(5, .null), (0, .ref 0), (1, iv x), (2, iv y), (3, iv d), (4, iv q)]) rfl rfl (fun d => rfl) ?_
    refine y_ld (x := .null) rfl rfl (fun d => rfl) ?_
    refine y_in (pc' := 33) rfl rfl (fun d => rfl) ?_
    refine y_ic rfl rfl ?_
    refine y_rI rfl (Or.inl rfl) ?_
    exact k0 (by omega)
  · refine y_nv ?_
    refine y_st (lv' := [(5, .ref t1), (0, .ref 0), (1, iv x), (2, iv y), (3, iv d), (4, iv q)]) rfl rfl (fun d => rfl) ?_
    refine y_ld (x := .ref t1) rfl rfl (fun d => rfl) ?_
    refine y_in (pc' := 15) rfl rfl (fun d => rfl) ?_
    refine y_ld (x := iv y) rfl rfl (fun d => rfl) ?_
    refine y_zlt rfl rfl rfl (by omega) (fun g1 => ?_) (fun g1 => ?_)
    · refine y_ic rfl rfl ?_
      refine y_rI rfl (Or.inl rfl) ?_
      exact k0 (by omega)
    · refine y_ld (x := iv y) rfl rfl (fun d => rfl) ?_
      refine y_ic rfl rfl ?_
      refine y_jgt rfl rfl rfl (by omega) (fun g2 => ?_) (fun g2 => ?_)
      · refine y_ic rfl rfl ?_
        refine y_rI rfl (Or.inl rfl) ?_
        exact k0 (by omega)
      · refine y_ld (x := iv d) rfl rfl (fun d => rfl) ?_
        refine y_zlt rfl rfl rfl (by omega) (fun g3 => ?_) (fun g3 => ?_)
        · refine y_ic rfl rfl ?_
          refine y_rI rfl (Or.inl rfl) ?_
          exact k0 (by omega)
        · refine y_ld (x := iv d) rfl rfl (fun d => rfl) ?_
          refine y_ic rfl rfl ?_
          refine y_jlt rfl rfl rfl (by omega) (fun g4 => ?_) (fun g4 => ?_)
          · obtain ⟨b1, b2, b3⟩ := hTt x.toNat t1 (by omega) (by assumption)
            have hl := hTO x.toNat (by omega)
            refine y_ld (x := iv q) rfl rfl (fun d => rfl) ?_
            refine y_zlt rfl rfl rfl (by omega) (fun g5 => ?_) (fun g5 => ?_)
            · refine y_ic rfl rfl ?_
              refine y_rI rfl (Or.inl rfl) ?_
              exact k0 (by omega)
            · refine y_ld (x := iv q) rfl rfl (fun d => rfl) ?_
              refine y_ic rfl rfl ?_
              refine y_jle rfl rfl rfl (by omega) (fun g6 => ?_) (fun g6 => ?_)
              · refine y_ld (x := iv y) rfl rfl (fun d => rfl) ?_
                refine y_ic rfl rfl ?_
                refine y_mul (z := (y * 4)) rfl rfl rfl ?_
                refine y_ld (x := iv d) rfl rfl (fun d => rfl) ?_
                refine y_add (z := (y * 4 + d)) rfl rfl (by omega) ?_
                refine y_st (lv' := [(6, iv (y * 4 + d)), (5, .ref t1), (0, .ref 0), (1, iv x), (2, iv y), (3, iv d), (4, iv q)]) rfl rfl (fun d => rfl) ?_
                have hg : 0 ≤ mkP 0 (fun _ => 0) (tl x.toNat) (y * 4 + d).toNat ∧ mkP 0 (fun _ => 0) (tl x.toNat) (y * 4 + d).toNat ≤ 10 := gP_rg hl (by omega)
                have e6 := b3.2.2.2.2.1 (y * 4 + d).toNat (by omega)
                have e7 := b3.2.2.2.2.2
                have e8 := e7.2.2 (y * 4 + d).toNat (by omega)
                have hr6 : -5 ≤ V (t1 + 6) (y * 4 + d).toNat ∧ V (t1 + 6) (y * 4 + d).toNat ≤ 8 := by rw [e6]; split <;> omega
                refine y_ld (x := iv q) rfl rfl (fun d => rfl) ?_
                refine y_ic rfl rfl ?_
                refine y_jne rfl rfl rfl (by omega) (fun g7 => ?_) (fun g7 => ?_)
                · refine y_ld (x := .ref t1) rfl rfl (fun d => rfl) ?_
                  refine y_gR (i := 8) rfl rfl rfl ht31.1 rfl ?_
                  refine y_ld (x := iv (y * 4 + d)) rfl rfl (fun d => rfl) ?_
                  refine y_ild (x := (V (t1 + 6) ((y * 4 + d).toNat))) (q := ((y * 4 + d).toNat)) rfl rfl ht31.2.2.2.2.2.2 (by omega) (by decide) (by omega) rfl ?_
                  refine y_bi rfl rfl (by decide) ?_
                  refine y_jeq rfl rfl rfl (by omega) (fun g8 => ?_) (fun g8 => ?_)
                  · refine y_ld (x := .ref t1) rfl rfl (fun d => rfl) ?_
                    refine y_gI (i := 7) (e := (V t1 7)) rfl rfl rfl ht31.1 rfl rfl ?_
                    refine y_ld (x := iv (y * 4 + d)) rfl rfl (fun d => rfl) ?_
                    refine y_op (z := (V t1 7 / 2 ^ (y * 4 + d).toNat)) rfl rfl (fun d => rfl) (v_shr (by omega) (by omega)) ?_
                    refine y_ic rfl rfl ?_
                    refine y_op (z := (V t1 7 / 2 ^ (y * 4 + d).toNat % 2)) rfl rfl (fun d => rfl) (v_and1 (Int.ediv_nonneg (by omega) (Int.le_of_lt (v_p2 _)))) ?_
                    refine y_rI rfl (Or.inl rfl) ?_
                    have k2 := k1 (by omega)
                    have e9 : ptA (mkP 0 (fun _ => 0) (tl x.toNat) (y * 4 + d).toNat) q = V t1 7 / 2 ^ (y * 4 + d).toNat % 2 := by
                      unfold ptA
                      by_cases hq : 1 < mkP 0 (fun _ => 0) (tl x.toNat) (y * 4 + d).toNat
                      · rw [if_pos hq] at e6; omega
                      · rw [if_neg (by omega), if_neg hq, e8]
                    rwa [e9] at k2
                  · refine y_ic rfl rfl ?_
                    refine y_rI rfl (Or.inl rfl) ?_
                    have k2 := k1 (by omega)
                    have e9 : ptA (mkP 0 (fun _ => 0) (tl x.toNat) (y * 4 + d).toNat) q = 2 := by
                      unfold ptA
                      rw [if_neg (by omega), if_pos ?_]
                      by_cases hq : 1 < mkP 0 (fun _ => 0) (tl x.toNat) (y * 4 + d).toNat
                      · exact hq
                      · rw [if_neg hq] at e6; omega
                    rwa [e9] at k2
                · refine y_ld (x := .ref t1) rfl rfl (fun d => rfl) ?_
                  refine y_gR (i := 8) rfl rfl rfl ht31.1 rfl ?_
                  refine y_ld (x := iv (y * 4 + d)) rfl rfl (fun d => rfl) ?_
                  refine y_ild (x := (V (t1 + 6) ((y * 4 + d).toNat))) (q := ((y * 4 + d).toNat)) rfl rfl ht31.2.2.2.2.2.2 (by omega) (by decide) (by omega) rfl ?_
                  refine y_rI rfl (Or.inl rfl) ?_
                  have k2 := k1 (by omega)
                  have e9 : ptA (mkP 0 (fun _ => 0) (tl x.toNat) (y * 4 + d).toNat) q = V (t1 + 6) ((y * 4 + d).toNat) := by
                    unfold ptA
                    rw [if_pos (by omega), e6]
                  rwa [e9] at k2
              · refine y_ic rfl rfl ?_
                refine y_rI rfl (Or.inl rfl) ?_
                exact k0 (by omega)
          · refine y_ic rfl rfl ?_
            refine y_rI rfl (Or.inl rfl) ?_
            exact k0 (by omega)
set_option maxRecDepth 100000 in
set_option maxHeartbeats 4000000 in
theorem lp_isSum {mm c o d q e : Nat} (hm : MeS S mm c) (ho : MeS S o d) (hq : MeS S q e) (hr : ∀ p : Nat, p < 84 → -2147483648 ≤ V c p ∧ V c p < 2147483648) (k1 : (∀ p : Nat, 64 ≤ p → p < 84 → V c p = wr (V d p + V e p)) → K u w (some (iv 1)) S V) (k0 : ¬ (∀ p : Nat, 64 ≤ p → p < 84 → V c p = wr (V d p + V e p)) → K u w (some (iv 0)) S V) {F : Nat} : ∀ (m : Nat) (i : Nat), 84 - i < m → (64 ≤ i ∧ i ≤ 84) → (∀ p : Nat, 64 ≤ p → p < i → V c p = wr (V d p + V e p)) → y_E X 0 14 (24 * m + F) u w 3 [(0, .ref mm), (1, .ref o), (2, .ref q), (3, iv (i : Int))] [] S V K := by
  intro m
  induction m with
  | zero => intros; omega
  | succ m ih =>
    intro i hm1 hI hJ 
    refine y_mono (F' := (24 * m + F) + 24) ?_ (by omega)
    refine y_ld (x := iv (i : Int)) rfl rfl (fun d => rfl) ?_
    refine y_bi rfl rfl (by decide) ?_
    refine y_jge rfl rfl rfl (by omega) (fun g1 => ?_) (fun g1 => ?_)
    · refine y_ic rfl rfl ?_
      refine y_rI rfl (by decide) ?_
      exact k1 (fun p h1 h2 => hJ p h1 (by omega))
    · refine y_ld (x := .ref mm) rfl rfl (fun d => rfl) ?_
      refine y_gR (i := 0) rfl rfl rfl hm.1 rfl ?_
      refine y_ld (x := iv (i : Int)) rfl rfl (fun d => rfl) ?_
      refine y_ild (x := (V c i)) (q := i) rfl rfl hm.2 (by omega) (by decide) (by omega) rfl ?_
      refine y_ld (x := .ref o) rfl rfl (fun d => rfl) ?_
      refine y_gR (i := 0) rfl rfl rfl ho.1 rfl ?_
      refine y_ld (x := iv (i : Int)) rfl rfl (fun d => rfl) ?_
      refine y_ild (x := (V d i)) (q := i) rfl rfl ho.2 (by omega) (by decide) (by omega) rfl ?_
      refine y_ld (x := .ref q) rfl rfl (fun d => rfl) ?_
      refine y_gR (i := 0) rfl rfl rfl hq.1 rfl ?_
      refine y_ld (x := iv (i : Int)) rfl rfl (fun d => rfl) ?_
      refine y_ild (x := (V e i)) (q := i) rfl rfl hq.2 (by omega) (by decide) (by omega) rfl ?_
      refine y_add (z := ((V d i) + (V e i))) rfl rfl rfl ?_
      refine y_top (wr_iv _) ?_
      have hw := wr_rg (V d i + V e i)
      have hri := hr i (by omega)
      refine y_jeq rfl rfl rfl (by omega) (fun g2 => ?_) (fun g2 => ?_)
      · refine y_inc (z := ((i + 1 : Nat) : Int)) (lv' := [(3, iv ((i + 1 : Nat) : Int)), (0, .ref mm), (1, .ref o), (2, .ref q)]) rfl rfl rfl (by omega) rfl ?_
        refine y_go rfl rfl ?_
        refine y_lv (l' := [(0, .ref mm), (1, .ref o), (2, .ref q), (3, iv ((i + 1 : Nat) : Int))]) rfl ⟨rfl, rfl, rfl, rfl, trivial⟩ ?_
        exact y_mono (ih (i + 1) (by omega) (by omega) (fun p h1 h2 => by rcases (show p < i ∨ p = i by omega) with h | h <;> first | exact hJ p h1 h | (rw [h]; omega))) (by omega)
      · refine y_ic rfl rfl ?_
        refine y_rI rfl (by decide) ?_
        exact k0 (fun hf => absurd (hf i (by omega) (by omega)) (by omega))
set_option maxRecDepth 100000 in
set_option maxHeartbeats 4000000 in
theorem cc_isSum {m c o d q e : Nat} (hm : MeS S m c) (ho : MeS S o d) (hq : MeS S q e) (hr : ∀ p : Nat, p < 84 → -2147483648 ≤ V c p ∧ V c p < 2147483648) (k1 : (∀ p : Nat, 64 ≤ p → p < 84 → V c p = wr (V d p + V e p)) → K u w (some (iv 1)) S V) (k0 : ¬ (∀ p : Nat, 64 ≤ p → p < 84 → V c p = wr (V d p + V e p)) → K u w (some (iv 0)) S V) : y_R X 1 14 u w [.ref m, .ref o, .ref q] S V K := by
  refine y_ent (lv' := [(0, .ref m), (1, .ref o), (2, .ref q)]) (Nat.le_of_ble_eq_true rfl) rfl ?_
  refine y_bi rfl rfl (by decide) ?_
  refine y_st (lv' := [(3, iv 64), (0, .ref m), (1, .ref o), (2, .ref q)]) rfl rfl (fun d => rfl) ?_
  refine y_lv (l' := [(0, .ref m), (1, .ref o), (2, .ref q), (3, iv ((64 : Nat) : Int))]) rfl ⟨rfl, rfl, rfl, rfl, trivial⟩ ?_
  exact y_mono (lp_isSum (F := 100) hm ho hq hr k1 k0 21 64 (by omega) (by omega) (fun p h1 h2 => absurd h2 (by omega))) (by decide)
set_option maxRecDepth 100000 in
set_option maxHeartbeats 4000000 in
theorem lp_whole (hC : ClF S) {tl : Nat → List p_Li} {cnt : Nat} {σ : Nat → Int} (hRS : RS S V 1 σ tl) (hSO : SO cnt σ) {x y q : Int} (hx : 0 ≤ x ∧ x < σ 1) (hy : 0 ≤ y ∧ y < σ 1) (hq : 0 ≤ q ∧ q < σ 1) (k2 : whP σ x.toNat y.toNat q.toNat → K u w (some (iv 1)) S V) (k3 : ¬ whP σ x.toNat y.toNat q.toNat → K u w (some (iv 0)) S V) {F : Nat} : ∀ (m : Nat) (i : Nat), 16 - i < m → (i ≤ 16) → (∀ p : Nat, p < 4 * i → σ (200 + 84 * q.toNat + p) = σ (200 + 84 * (σ (1552 + 16 * x.toNat + p / 4)).toNat + p)) → y_E X 3 84 (400 * m + F) u w 68 [(0, .ref 0), (1, iv x), (2, iv y), (3, iv q), (4, .ref (10 + 6 * x.toNat)), (5, .ref (10 + 6 * y.toNat)), (6, .ref (10 + 6 * q.toNat)), (7, iv (i : Int))] [] S V K := by
  intro m
  induction m with
  | zero => intros; omega
  | succ m ih =>
    intro i hm hI hJ 
    refine y_mono (F' := (400 * m + F) + 400) ?_ (by omega)
    refine y_ld (x := iv (i : Int)) rfl rfl (fun d => rfl) ?_
    refine y_bi rfl rfl (by decide) ?_
    refine y_jge rfl rfl rfl (by omega) (fun g1 => ?_) (fun g1 => ?_)
    · obtain ⟨n1, n2, n3, n4⟩ := hRS.1
      have hsz := hSO.1
      have b1 := n4 x.toNat (by omega)
      have b2 := n4 y.toNat (by omega)
      have b3 := n4 q.toNat (by omega)
      have hr1 := (hSO.2.2.1 q.toNat (by omega)).2.2.2.2.1
      refine y_ld (x := .ref (10 + 6 * q.toNat)) rfl rfl (fun d => rfl) ?_
      refine y_gR (i := 6) rfl rfl rfl (bx_ob hC (i := q.toNat) (by omega)) rfl ?_
      refine y_ld (x := .ref (10 + 6 * x.toNat)) rfl rfl (fun d => rfl) ?_
      refine y_gR (i := 6) rfl rfl rfl (bx_ob hC (i := x.toNat) (by omega)) rfl ?_
      refine y_ld (x := .ref (10 + 6 * y.toNat)) rfl rfl (fun d => rfl) ?_
      refine y_gR (i := 6) rfl rfl rfl (bx_ob hC (i := y.toNat) (by omega)) rfl ?_
      refine y_cV (as := [.ref (10 + 6 * q.toNat + 2), .ref (10 + 6 * x.toNat + 2), .ref (10 + 6 * y.toNat + 2)]) rfl rfl rfl rfl rfl (bx_mem hC (i := q.toNat) (by omega)) ⟨rfl, (Nat.le_of_ble_eq_true rfl), (Nat.le_of_ble_eq_true rfl)⟩ (by decide) (cc_isSum ⟨(bx_mem hC (i := q.toNat) (by omega)), (bx_mcl hC (i := q.toNat) (by omega))⟩ ⟨(bx_mem hC (i := x.toNat) (by omega)), (bx_mcl hC (i := x.toNat) (by omega))⟩ ⟨(bx_mem hC (i := y.toNat) (by omega)), (bx_mcl hC (i := y.toNat) (by omega))⟩ (fun p hp => by rw [b3.2.2.2.2.2.2.1 p hp]; exact hr1 p hp) (fun hs => ?_) (fun hs => ?_))
      · refine y_nv ?_
        refine y_zeq rfl rfl rfl (by decide) (fun g2 => absurd g2 (by decide)) (fun g2 => ?_)
        refine y_ic rfl rfl ?_
        refine y_go rfl rfl ?_
        refine y_rI rfl (Or.inl rfl) ?_
        exact k2 ⟨fun p hp => hJ p (by omega), fun p h1 h2 => (b3.2.2.2.2.2.2.1 p h2).symm.trans ((hs p h1 h2).trans (by rw [b1.2.2.2.2.2.2.1 p h2, b2.2.2.2.2.2.2.1 p h2]))⟩
      · refine y_nv ?_
        refine y_zeq rfl rfl rfl (by decide) (fun g3 => ?_) (fun g3 => absurd g3 (by decide))
        refine y_ic rfl rfl ?_
        refine y_rI rfl (Or.inl rfl) ?_
        exact k3 (fun hf => hs (fun p h1 h2 => (b3.2.2.2.2.2.2.1 p h2).trans ((hf.2 p h1 h2).trans (by rw [b1.2.2.2.2.2.2.1 p h2, b2.2.2.2.2.2.2.1 p h2]))))
    · obtain ⟨n1, n2, n3, n4⟩ := hRS.1
      have hsz := hSO.1
      have b1 := n4 x.toNat (by omega)
      have b3 := n4 q.toNat (by omega)
      have hL := hSO.2.2.2.1 x.toNat (by omega) i (by omega)
      obtain ⟨c, hc⟩ : ∃ c : Nat, σ (1552 + 16 * x.toNat + i) = (c : Int) := ⟨(σ (1552 + 16 * x.toNat + i)).toNat, by omega⟩
      have hlx := hL.2.2 (by omega)
      have hc8 : c < 8 := by omega
      have b4 := n4 c hc8
      have el : V (10 + 6 * x.toNat + 1) i = (c : Int) := (b1.2.2.2.2.2.1 i (by omega)).trans hc
      have hr1 := (hSO.2.2.1 q.toNat (by omega)).2.2.2.2.1
      have hr2 := (hSO.2.2.1 c hc8).2.2.2.2.1
      refine y_ld (x := .ref 0) rfl rfl (fun d => rfl) ?_
      refine y_gR (i := 0) rfl rfl rfl (hC 0 _ _ rfl) rfl ?_
      refine y_ld (x := .ref (10 + 6 * x.toNat)) rfl rfl (fun d => rfl) ?_
      refine y_gR (i := 5) rfl rfl rfl (bx_ob hC (i := x.toNat) (by omega)) rfl ?_
      refine y_ld (x := iv (i : Int)) rfl rfl (fun d => rfl) ?_
      refine y_ild (x := (c : Int)) (q := i) rfl rfl (bx_led hC (i := x.toNat) (by omega)) (by omega) (by decide) (by omega) el ?_
      refine y_cV (as := [.ref 1, iv (c : Int)]) rfl rfl rfl rfl rfl (hC 1 _ _ rfl) ⟨rfl, (Nat.le_of_ble_eq_true rfl), (Nat.le_of_ble_eq_true rfl)⟩ (by decide) (cb_boxAt (x := (c : Int)) hC (by omega) (by omega) (fun hno => absurd (show 0 ≤ (c : Int) ∧ (c : Int) < V 1 5 by omega) hno) (fun gB => ?_))
      refine y_nv ?_
      refine y_st (lv' := [(8, .ref (10 + 6 * c)), (0, .ref 0), (1, iv x), (2, iv y), (3, iv q), (4, .ref (10 + 6 * x.toNat)), (5, .ref (10 + 6 * y.toNat)), (6, .ref (10 + 6 * q.toNat)), (7, iv (i : Int))]) rfl rfl (fun d => rfl) ?_
      refine y_ld (x := .ref (10 + 6 * c)) rfl rfl (fun d => rfl) ?_
      refine y_in (pc' := 97) rfl rfl (fun d => rfl) ?_
      refine y_ld (x := .ref (10 + 6 * q.toNat)) rfl rfl (fun d => rfl) ?_
      refine y_gR (i := 6) rfl rfl rfl (bx_ob hC (i := q.toNat) (by omega)) rfl ?_
      refine y_ld (x := .ref (10 + 6 * c)) rfl rfl (fun d => rfl) ?_
      refine y_gR (i := 6) rfl rfl rfl (bx_ob hC (i := c) (by omega)) rfl ?_
      refine y_ld (x := iv (i : Int)) rfl rfl (fun d => rfl) ?_
      refine y_cV (as := [.ref (10 + 6 * q.toNat + 2), .ref (10 + 6 * c + 2), iv (i : Int)]) rfl rfl rfl rfl rfl (bx_mem hC (i := q.toNat) (by omega)) ⟨rfl, (Nat.le_of_ble_eq_true rfl), (Nat.le_of_ble_eq_true rfl)⟩ (by decide) (cc_has (t := i) ⟨(bx_mem hC (i := q.toNat) (by omega)), (bx_mcl hC (i := q.toNat) (by omega))⟩ ⟨(bx_mem hC (i := c) (by omega)), (bx_mcl hC (i := c) (by omega))⟩ (by omega) (fun p hp => ⟨by rw [b3.2.2.2.2.2.2.1 p hp]; exact hr1 p hp, by rw [b4.2.2.2.2.2.2.1 p hp]; exact hr2 p hp⟩) (fun hh => ?_) (fun hh => ?_))
      · refine y_nv ?_
        refine y_zne rfl rfl rfl (by decide) (fun g4 => ?_) (fun g4 => absurd g4 (by decide))
        refine y_inc (z := ((i + 1 : Nat) : Int)) (lv' := [(7, iv ((i + 1 : Nat) : Int)), (8, .ref (10 + 6 * c)), (0, .ref 0), (1, iv x), (2, iv y), (3, iv q), (4, .ref (10 + 6 * x.toNat)), (5, .ref (10 + 6 * y.toNat)), (6, .ref (10 + 6 * q.toNat))]) rfl rfl rfl (by omega) rfl ?_
        refine y_go rfl rfl ?_
        refine y_lv (l' := [(0, .ref 0), (1, iv x), (2, iv y), (3, iv q), (4, .ref (10 + 6 * x.toNat)), (5, .ref (10 + 6 * y.toNat)), (6, .ref (10 + 6 * q.toNat)), (7, iv ((i + 1 : Nat) : Int))]) rfl ⟨rfl, rfl, rfl, rfl, rfl, rfl, rfl, rfl, trivial⟩ ?_
        have f0 : σ (200 + 84 * q.toNat + (4 * i + 0)) = σ (200 + 84 * c + (4 * i + 0)) := (b3.2.2.2.2.2.2.1 (4 * i + 0) (by omega)).symm.trans (hh.1.trans (b4.2.2.2.2.2.2.1 (4 * i + 0) (by omega)))
        have f1 : σ (200 + 84 * q.toNat + (4 * i + 1)) = σ (200 + 84 * c + (4 * i + 1)) := (b3.2.2.2.2.2.2.1 (4 * i + 1) (by omega)).symm.trans (hh.2.1.trans (b4.2.2.2.2.2.2.1 (4 * i + 1) (by omega)))
        have f2 : σ (200 + 84 * q.toNat + (4 * i + 2)) = σ (200 + 84 * c + (4 * i + 2)) := (b3.2.2.2.2.2.2.1 (4 * i + 2) (by omega)).symm.trans (hh.2.2.1.trans (b4.2.2.2.2.2.2.1 (4 * i + 2) (by omega)))
        have f3 : σ (200 + 84 * q.toNat + (4 * i + 3)) = σ (200 + 84 * c + (4 * i + 3)) := (b3.2.2.2.2.2.2.1 (4 * i + 3) (by omega)).symm.trans (hh.2.2.2.trans (b4.2.2.2.2.2.2.1 (4 * i + 3) (by omega)))
        refine y_mono (ih (i + 1) (by omega) (by omega) (fun p hp => ?_)) (by omega)
        by_cases h : p < 4 * i
        · exact hJ p h
        · rw [show p / 4 = i by omega, hc, Int.toNat_natCast]
          rcases (show p = 4 * i + 0 ∨ p = 4 * i + 1 ∨ p = 4 * i + 2 ∨ p = 4 * i + 3 by omega) with rfl | rfl | rfl | rfl
          · exact f0
          · exact f1
          · exact f2
          · exact f3
      · refine y_nv ?_
        refine y_zne rfl rfl rfl (by decide) (fun g5 => absurd g5 (by decide)) (fun g5 => ?_)
        refine y_ic rfl rfl ?_
        refine y_rI rfl (Or.inl rfl) ?_
        refine k3 (fun hf => hh ?_)
        have f0 := hf.1 (4 * i + 0) (by omega)
        rw [show (4 * i + 0) / 4 = i by omega, hc, Int.toNat_natCast] at f0
        have u0 := b3.2.2.2.2.2.2.1 (4 * i + 0) (by omega)
        have w0 := b4.2.2.2.2.2.2.1 (4 * i + 0) (by omega)
        have f1 := hf.1 (4 * i + 1) (by omega)
        rw [show (4 * i + 1) / 4 = i by omega, hc, Int.toNat_natCast] at f1
        have u1 := b3.2.2.2.2.2.2.1 (4 * i + 1) (by omega)
        have w1 := b4.2.2.2.2.2.2.1 (4 * i + 1) (by omega)
        have f2 := hf.1 (4 * i + 2) (by omega)
        rw [show (4 * i + 2) / 4 = i by omega, hc, Int.toNat_natCast] at f2
        have u2 := b3.2.2.2.2.2.2.1 (4 * i + 2) (by omega)
        have w2 := b4.2.2.2.2.2.2.1 (4 * i + 2) (by omega)
        have f3 := hf.1 (4 * i + 3) (by omega)
        rw [show (4 * i + 3) / 4 = i by omega, hc, Int.toNat_natCast] at f3
        have u3 := b3.2.2.2.2.2.2.1 (4 * i + 3) (by omega)
        have w3 := b4.2.2.2.2.2.2.1 (4 * i + 3) (by omega)
        exact ⟨u0.trans (f0.trans w0.symm), u1.trans (f1.trans w1.symm), u2.trans (f2.trans w2.symm), u3.trans (f3.trans w3.symm)⟩
set_option maxRecDepth 100000 in
set_option maxHeartbeats 4000000 in
theorem cs_whole (hC : ClF S) {tl : Nat → List p_Li} {cnt : Nat} {σ : Nat → Int} (hRS : RS S V 1 σ tl) (hSO : SO cnt σ) {x : Int} (hx : (-2147483648 ≤ x ∧ x < 2147483648)) {y : Int} (hy : (-2147483648 ≤ y ∧ y < 2147483648)) {q : Int} (hq : (-2147483648 ≤ q ∧ q < 2147483648)) (k0 : ¬ ((0 ≤ x ∧ x < σ 1) ∧ (0 ≤ y ∧ y < σ 1) ∧ (0 ≤ q ∧ q < σ 1)) → K u w (some (iv (-1))) S V) (k1 : ((0 ≤ x ∧ x < σ 1) ∧ (0 ≤ y ∧ y < σ 1) ∧ (0 ≤ q ∧ q < σ 1)) → (x = y ∨ x = q ∨ y = q) → K u w (some (iv (-2))) S V) (k2 : ((0 ≤ x ∧ x < σ 1) ∧ (0 ≤ y ∧ y < σ 1) ∧ (0 ≤ q ∧ q < σ 1)) → ¬ (x = y ∨ x = q ∨ y = q) → whP σ x.toNat y.toNat q.toNat → K u w (some (iv 1)) S V) (k3 : ((0 ≤ x ∧ x < σ 1) ∧ (0 ≤ y ∧ y < σ 1) ∧ (0 ≤ q ∧ q < σ 1)) → ¬ (x = y ∨ x = q ∨ y = q) → ¬ whP σ x.toNat y.toNat q.toNat → K u w (some (iv 0)) S V) : y_R X 4 84 u w [.ref 0, iv x, iv y, iv q] S V K := by
  obtain ⟨n1, n2, n3, n4⟩ := hRS.1
  have hsz := hSO.1
  have hB : 0 ≤ V 1 5 ∧ V 1 5 ≤ 8 := by omega
  refine y_ent (lv' := [(0, .ref 0), (1, iv x), (2, iv y), (3, iv q)]) (Nat.le_of_ble_eq_true rfl) rfl ?_
  refine y_ld (x := .ref 0) rfl rfl (fun d => rfl) ?_
  refine y_gR (i := 0) rfl rfl rfl (hC 0 _ _ rfl) rfl ?_
  refine y_ld (x := iv x) rfl rfl (fun d => rfl) ?_
  refine y_cV (as := [.ref 1, iv x]) rfl rfl rfl rfl rfl (hC 1 _ _ rfl) ⟨rfl, (Nat.le_of_ble_eq_true rfl), (Nat.le_of_ble_eq_true rfl)⟩ (by decide) (cb_boxAt (x := x) hC hB (by omega) (fun gb1 => ?_) (fun gb1 => ?_))
  · refine y_nv ?_
    refine y_st (lv' := [(4, .null), (0, .ref 0), (1, iv x), (2, iv y), (3, iv q)]) rfl rfl (fun d => rfl) ?_
    refine y_ld (x := .ref 0) rfl rfl (fun d => rfl) ?_
    refine y_gR (i := 0) rfl rfl rfl (hC 0 _ _ rfl) rfl ?_
    refine y_ld (x := iv y) rfl rfl (fun d => rfl) ?_
    refine y_cV (as := [.ref 1, iv y]) rfl rfl rfl rfl rfl (hC 1 _ _ rfl) ⟨rfl, (Nat.le_of_ble_eq_true rfl), (Nat.le_of_ble_eq_true rfl)⟩ (by decide) (cb_boxAt (x := y) hC hB (by omega) (fun gb2 => ?_) (fun gb2 => ?_))
    · refine y_nv ?_
      refine y_st (lv' := [(5, .null), (4, .null), (0, .ref 0), (1, iv x), (2, iv y), (3, iv q)]) rfl rfl (fun d => rfl) ?_
      refine y_ld (x := .ref 0) rfl rfl (fun d => rfl) ?_
      refine y_gR (i := 0) rfl rfl rfl (hC 0 _ _ rfl) rfl ?_
      refine y_ld (x := iv q) rfl rfl (fun d => rfl) ?_
      refine y_cV (as := [.ref 1, iv q]) rfl rfl rfl rfl rfl (hC 1 _ _ rfl) ⟨rfl, (Nat.le_of_ble_eq_true rfl), (Nat.le_of_ble_eq_true rfl)⟩ (by decide) (cb_boxAt (x := q) hC hB (by omega) (fun gb3 => ?_) (fun gb3 => ?_))
      · refine y_nv ?_
        refine y_st (lv' := [(6, .null), (5, .null), (4, .null), (0, .ref 0), (1, iv x), (2, iv y), (3, iv q)]) rfl rfl (fun d => rfl) ?_
        refine y_ld (x := .null) rfl rfl (fun d => rfl) ?_
        refine y_in (pc' := 45) rfl rfl (fun d => rfl) ?_
        refine y_ic rfl rfl ?_
        refine y_rI rfl (Or.inl rfl) ?_
        exact k0 (by omega)
      · refine y_nv ?_
        refine y_st (lv' := [(6, .ref (10 + 6 * q.toNat)), (5, .null), (4, .null), (0, .ref 0), (1, iv x), (2, iv y), (3, iv q)]) rfl rfl (fun d => rfl) ?_
        refine y_ld (x := .null) rfl rfl (fun d => rfl) ?_
        refine y_in (pc' := 45) rfl rfl (fun d => rfl) ?_
        refine y_ic rfl rfl ?_
        refine y_rI rfl (Or.inl rfl) ?_
        exact k0 (by omega)
    · refine y_nv ?_
      refine y_st (lv' := [(5, .ref (10 + 6 * y.toNat)), (4, .null), (0, .ref 0), (1, iv x), (2, iv y), (3, iv q)]) rfl rfl (fun d => rfl) ?_
      refine y_ld (x := .ref 0) rfl rfl (fun d => rfl) ?_
      refine y_gR (i := 0) rfl rfl rfl (hC 0 _ _ rfl) rfl ?_
      refine y_ld (x := iv q) rfl rfl (fun d => rfl) ?_
      refine y_cV (as := [.ref 1, iv q]) rfl rfl rfl rfl rfl (hC 1 _ _ rfl) ⟨rfl, (Nat.le_of_ble_eq_true rfl), (Nat.le_of_ble_eq_true rfl)⟩ (by decide) (cb_boxAt (x := q) hC hB (by omega) (fun gb4 => ?_) (fun gb4 => ?_))
      · refine y_nv ?_
        refine y_st (lv' := [(6, .null), (5, .ref (10 + 6 * y.toNat)), (4, .null), (0, .ref 0), (1, iv x), (2, iv y), (3, iv q)]) rfl rfl (fun d => rfl) ?_
        refine y_ld (x := .null) rfl rfl (fun d => rfl) ?_
        refine y_in (pc' := 45) rfl rfl (fun d => rfl) ?_
        refine y_ic rfl rfl ?_
        refine y_rI rfl (Or.inl rfl) ?_
        exact k0 (by omega)
      · refine y_nv ?_
        refine y_st (lv' := [(6, .ref (10 + 6 * q.toNat)), (5, .ref (10 + 6 * y.toNat)), (4, .null), (0, .ref 0), (1, iv x), (2, iv y), (3, iv q)]) rfl rfl (fun d => rfl) ?_
        refine y_ld (x := .null) rfl rfl (fun d => rfl) ?_
        refine y_in (pc' := 45) rfl rfl (fun d => rfl) ?_
        refine y_ic rfl rfl ?_
        refine y_rI rfl (Or.inl rfl) ?_
        exact k0 (by omega)
  · refine y_nv ?_
    refine y_st (lv' := [(4, .ref (10 + 6 * x.toNat)), (0, .ref 0), (1, iv x), (2, iv y), (3, iv q)]) rfl rfl (fun d => rfl) ?_
    refine y_ld (x := .ref 0) rfl rfl (fun d => rfl) ?_
    refine y_gR (i := 0) rfl rfl rfl (hC 0 _ _ rfl) rfl ?_
    refine y_ld (x := iv y) rfl rfl (fun d => rfl) ?_
    refine y_cV (as := [.ref 1, iv y]) rfl rfl rfl rfl rfl (hC 1 _ _ rfl) ⟨rfl, (Nat.le_of_ble_eq_true rfl), (Nat.le_of_ble_eq_true rfl)⟩ (by decide) (cb_boxAt (x := y) hC hB (by omega) (fun gb5 => ?_) (fun gb5 => ?_))
    · refine y_nv ?_
      refine y_st (lv' := [(5, .null), (4, .ref (10 + 6 * x.toNat)), (0, .ref 0), (1, iv x), (2, iv y), (3, iv q)]) rfl rfl (fun d => rfl) ?_
      refine y_ld (x := .ref 0) rfl rfl (fun d => rfl) ?_
      refine y_gR (i := 0) rfl rfl rfl (hC 0 _ _ rfl) rfl ?_
      refine y_ld (x := iv q) rfl rfl (fun d => rfl) ?_
      refine y_cV (as := [.ref 1, iv q]) rfl rfl rfl rfl rfl (hC 1 _ _ rfl) ⟨rfl, (Nat.le_of_ble_eq_true rfl), (Nat.le_of_ble_eq_true rfl)⟩ (by decide) (cb_boxAt (x := q) hC hB (by omega) (fun gb6 => ?_) (fun gb6 => ?_))
      · refine y_nv ?_
        refine y_st (lv' := [(6, .null), (5, .null), (4, .ref (10 + 6 * x.toNat)), (0, .ref 0), (1, iv x), (2, iv y), (3, iv q)]) rfl rfl (fun d => rfl) ?_
        refine y_ld (x := .ref (10 + 6 * x.toNat)) rfl rfl (fun d => rfl) ?_
        refine y_in (pc' := 35) rfl rfl (fun d => rfl) ?_
        refine y_ld (x := .null) rfl rfl (fun d => rfl) ?_
        refine y_in (pc' := 45) rfl rfl (fun d => rfl) ?_
        refine y_ic rfl rfl ?_
        refine y_rI rfl (Or.inl rfl) ?_
        exact k0 (by omega)
      · refine y_nv ?_
        refine y_st (lv' := [(6, .ref (10 + 6 * q.toNat)), (5, .null), (4, .ref (10 + 6 * x.toNat)), (0, .ref 0), (1, iv x), (2, iv y), (3, iv q)]) rfl rfl (fun d => rfl) ?_
        refine y_ld (x := .ref (10 + 6 * x.toNat)) rfl rfl (fun d => rfl) ?_
        refine y_in (pc' := 35) rfl rfl (fun d => rfl) ?_
        refine y_ld (x := .null) rfl rfl (fun d => rfl) ?_
        refine y_in (pc' := 45) rfl rfl (fun d => rfl) ?_
        refine y_ic rfl rfl ?_
        refine y_rI rfl (Or.inl rfl) ?_
        exact k0 (by omega)
    · refine y_nv ?_
      refine y_st (lv' := [(5, .ref (10 + 6 * y.toNat)), (4, .ref (10 + 6 * x.toNat)), (0, .ref 0), (1, iv x), (2, iv y), (3, iv q)]) rfl rfl (fun d => rfl) ?_
      refine y_ld (x := .ref 0) rfl rfl (fun d => rfl) ?_
      refine y_gR (i := 0) rfl rfl rfl (hC 0 _ _ rfl) rfl ?_
      refine y_ld (x := iv q) rfl rfl (fun d => rfl) ?_
      refine y_cV (as := [.ref 1, iv q]) rfl rfl rfl rfl rfl (hC 1 _ _ rfl) ⟨rfl, (Nat.le_of_ble_eq_true rfl), (Nat.le_of_ble_eq_true rfl)⟩ (by decide) (cb_boxAt (x := q) hC hB (by omega) (fun gb7 => ?_) (fun gb7 => ?_))
      · refine y_nv ?_
        refine y_st (lv' := [(6, .null), (5, .ref (10 + 6 * y.toNat)), (4, .ref (10 + 6 * x.toNat)), (0, .ref 0), (1, iv x), (2, iv y), (3, iv q)]) rfl rfl (fun d => rfl) ?_
        refine y_ld (x := .ref (10 + 6 * x.toNat)) rfl rfl (fun d => rfl) ?_
        refine y_in (pc' := 35) rfl rfl (fun d => rfl) ?_
        refine y_ld (x := .ref (10 + 6 * y.toNat)) rfl rfl (fun d => rfl) ?_
        refine y_in (pc' := 40) rfl rfl (fun d => rfl) ?_
        refine y_ld (x := .null) rfl rfl (fun d => rfl) ?_
        refine y_in (pc' := 45) rfl rfl (fun d => rfl) ?_
        refine y_ic rfl rfl ?_
        refine y_rI rfl (Or.inl rfl) ?_
        exact k0 (by omega)
      · refine y_nv ?_
        refine y_st (lv' := [(6, .ref (10 + 6 * q.toNat)), (5, .ref (10 + 6 * y.toNat)), (4, .ref (10 + 6 * x.toNat)), (0, .ref 0), (1, iv x), (2, iv y), (3, iv q)]) rfl rfl (fun d => rfl) ?_
        refine y_ld (x := .ref (10 + 6 * x.toNat)) rfl rfl (fun d => rfl) ?_
        refine y_in (pc' := 35) rfl rfl (fun d => rfl) ?_
        refine y_ld (x := .ref (10 + 6 * y.toNat)) rfl rfl (fun d => rfl) ?_
        refine y_in (pc' := 40) rfl rfl (fun d => rfl) ?_
        refine y_ld (x := .ref (10 + 6 * q.toNat)) rfl rfl (fun d => rfl) ?_
        refine y_in (pc' := 47) rfl rfl (fun d => rfl) ?_
        refine y_ld (x := iv x) rfl rfl (fun d => rfl) ?_
        refine y_ld (x := iv y) rfl rfl (fun d => rfl) ?_
        refine y_jeq rfl rfl rfl (by omega) (fun g1 => ?_) (fun g1 => ?_)
        · refine y_bi rfl rfl (by decide) ?_
          refine y_rI rfl (Or.inl rfl) ?_
          exact k1 (by omega) (by omega)
        · refine y_ld (x := iv x) rfl rfl (fun d => rfl) ?_
          refine y_ld (x := iv q) rfl rfl (fun d => rfl) ?_
          refine y_jeq rfl rfl rfl (by omega) (fun g2 => ?_) (fun g2 => ?_)
          · refine y_bi rfl rfl (by decide) ?_
            refine y_rI rfl (Or.inl rfl) ?_
            exact k1 (by omega) (by omega)
          · refine y_ld (x := iv y) rfl rfl (fun d => rfl) ?_
            refine y_ld (x := iv q) rfl rfl (fun d => rfl) ?_
            refine y_jne rfl rfl rfl (by omega) (fun g3 => ?_) (fun g3 => ?_)
            · refine y_ic rfl rfl ?_
              refine y_st (lv' := [(7, iv 0), (6, .ref (10 + 6 * q.toNat)), (5, .ref (10 + 6 * y.toNat)), (4, .ref (10 + 6 * x.toNat)), (0, .ref 0), (1, iv x), (2, iv y), (3, iv q)]) rfl rfl (fun d => rfl) ?_
              refine y_lv (l' := [(0, .ref 0), (1, iv x), (2, iv y), (3, iv q), (4, .ref (10 + 6 * x.toNat)), (5, .ref (10 + 6 * y.toNat)), (6, .ref (10 + 6 * q.toNat)), (7, iv ((0 : Nat) : Int))]) rfl ⟨rfl, rfl, rfl, rfl, rfl, rfl, rfl, rfl, trivial⟩ ?_
              exact y_mono (lp_whole (F := 200) hC hRS hSO (by omega) (by omega) (by omega) (k2 (by omega) (by omega)) (k3 (by omega) (by omega)) 17 0 (by omega) (by omega) (fun p hp => absurd hp (by omega))) (by decide)
            · refine y_bi rfl rfl (by decide) ?_
              refine y_rI rfl (Or.inl rfl) ?_
              exact k1 (by omega) (by omega)
def tuB (σ : Nat → Int) (b i t : Nat) (v : Int) : Prop := (t < i ∧ tuP σ b t → v = 1) ∧ (¬ (t < i ∧ tuP σ b t) → v = 0)
set_option maxRecDepth 100000 in
set_option maxHeartbeats 4000000 in
theorem lp_fall (hC : ClF S) {tl : Nat → List p_Li} {cnt : Nat} {σ : Nat → Int} (hRS : RS S V 1 σ tl) (hSO : SO cnt σ) {x : Int} (hx : 0 ≤ x ∧ x < σ 1) {F : Nat} : ∀ (m : Nat) (i : Nat) (r : Int), 16 - i < m → (i ≤ 16) → (0 ≤ r ∧ r < 65536) → (∀ t : Nat, tuB σ x.toNat i t (r / 2 ^ t % 2)) → (∀ r : Int, 0 ≤ r ∧ r < 65536 → (∀ t : Nat, tuB σ x.toNat 16 t (r / 2 ^ t % 2)) → y_E X 3 86 F u w 56 [(0, .ref 0), (1, iv x), (2, .ref (10 + 6 * x.toNat)), (3, iv r)] [] S V K) → y_E X 3 86 (100 * m + F) u w 20 [(0, .ref 0), (1, iv x), (2, .ref (10 + 6 * x.toNat)), (3, iv r), (4, iv (i : Int))] [] S V K := by
  intro m
  induction m with
  | zero => intros; omega
  | succ m ih =>
    intro i r hm hI hr hJ hx2
    refine y_mono (F' := (100 * m + F) + 100) ?_ (by omega)
    refine y_ld (x := iv (i : Int)) rfl rfl (fun d => rfl) ?_
    refine y_bi rfl rfl (by decide) ?_
    refine y_jge rfl rfl rfl (by omega) (fun g1 => ?_) (fun g1 => ?_)
    · obtain rfl : i = 16 := by omega
      refine y_lv (l' := [(0, .ref 0), (1, iv x), (2, .ref (10 + 6 * x.toNat)), (3, iv r)]) rfl ⟨rfl, rfl, rfl, rfl, trivial⟩ ?_
      exact y_mono (hx2 r hr hJ) (by omega)
    · obtain ⟨n1, n2, n3, n4⟩ := hRS.1
      have hsz := hSO.1
      have b1 := n4 x.toNat (by omega)
      have hr1 := (hSO.2.2.1 x.toNat (by omega)).2.2.2.2.1
      have hr2 := (hSO.2.2.1 x.toNat (by omega)).2.2.2.2.2
      refine y_ld (x := .ref (10 + 6 * x.toNat)) rfl rfl (fun d => rfl) ?_
      refine y_gR (i := 6) rfl rfl rfl (bx_ob hC (i := x.toNat) (by omega)) rfl ?_
      refine y_ld (x := .ref (10 + 6 * x.toNat)) rfl rfl (fun d => rfl) ?_
      refine y_gR (i := 7) rfl rfl rfl (bx_ob hC (i := x.toNat) (by omega)) rfl ?_
      refine y_ld (x := iv (i : Int)) rfl rfl (fun d => rfl) ?_
      refine y_cV (as := [.ref (10 + 6 * x.toNat + 2), .ref (10 + 6 * x.toNat + 4), iv (i : Int)]) rfl rfl rfl rfl rfl (bx_mem hC (i := x.toNat) (by omega)) ⟨rfl, (Nat.le_of_ble_eq_true rfl), (Nat.le_of_ble_eq_true rfl)⟩ (by decide) (cc_has (t := i) ⟨(bx_mem hC (i := x.toNat) (by omega)), (bx_mcl hC (i := x.toNat) (by omega))⟩ ⟨(bx_cop hC (i := x.toNat) (by omega)), (bx_ccl hC (i := x.toNat) (by omega))⟩ (by omega) (fun p hp => ⟨by rw [b1.2.2.2.2.2.2.1 p hp]; exact hr1 p hp, by rw [b1.2.2.2.2.2.2.2 p hp]; exact hr2 p hp⟩) (fun hh => ?_) (fun hh => ?_))
      · refine y_nv ?_
        refine y_zeq rfl rfl rfl (by decide) (fun g2 => absurd g2 (by decide)) (fun g2 => ?_)
        refine y_ld (x := iv r) rfl rfl (fun d => rfl) ?_
        refine y_ic rfl rfl ?_
        refine y_ld (x := iv (i : Int)) rfl rfl (fun d => rfl) ?_
        refine y_op (z := (2 ^ i)) rfl rfl (fun d => rfl) (v_shl1 (k := (i : Int)) (by omega)) ?_
        refine y_op (z := (v_o2 r i)) rfl rfl (fun d => rfl) (v_or_o2 (by omega) i) ?_
        refine y_st (lv' := [(3, iv (v_o2 r i)), (0, .ref 0), (1, iv x), (2, .ref (10 + 6 * x.toNat)), (4, iv (i : Int))]) rfl rfl (fun d => rfl) ?_
        refine y_inc (z := ((i + 1 : Nat) : Int)) (lv' := [(4, iv ((i + 1 : Nat) : Int)), (3, iv (v_o2 r i)), (0, .ref 0), (1, iv x), (2, .ref (10 + 6 * x.toNat))]) rfl rfl rfl (by omega) rfl ?_
        refine y_go rfl rfl ?_
        refine y_lv (l' := [(0, .ref 0), (1, iv x), (2, .ref (10 + 6 * x.toNat)), (3, iv (v_o2 r i)), (4, iv ((i + 1 : Nat) : Int))]) rfl ⟨rfl, rfl, rfl, rfl, rfl, trivial⟩ ?_
        have u0 := b1.2.2.2.2.2.2.1 (4 * i + 0) (by omega)
        have w0 := b1.2.2.2.2.2.2.2 (4 * i + 0) (by omega)
        have u1 := b1.2.2.2.2.2.2.1 (4 * i + 1) (by omega)
        have w1 := b1.2.2.2.2.2.2.2 (4 * i + 1) (by omega)
        have u2 := b1.2.2.2.2.2.2.1 (4 * i + 2) (by omega)
        have w2 := b1.2.2.2.2.2.2.2 (4 * i + 2) (by omega)
        have u3 := b1.2.2.2.2.2.2.1 (4 * i + 3) (by omega)
        have w3 := b1.2.2.2.2.2.2.2 (4 * i + 3) (by omega)
        have hp : tuP σ x.toNat i := by
          intro d hd
          rcases (show d = 0 ∨ d = 1 ∨ d = 2 ∨ d = 3 by omega) with rfl | rfl | rfl | rfl
          · exact u0.symm.trans (hh.1.trans w0)
          · exact u1.symm.trans (hh.2.1.trans w1)
          · exact u2.symm.trans (hh.2.2.1.trans w2)
          · exact u3.symm.trans (hh.2.2.2.trans w3)
        refine y_mono (ih (i + 1) (v_o2 r i) (by omega) (by omega) (v_o2_lt16 hr (by omega)) (fun t => ?_) hx2) (by omega)
        have hj := hJ t
        rw [v_o2_bit hr.1]
        by_cases ht : t = i
        · rw [if_pos ht, ht]
          exact ⟨fun _ => rfl, fun hn => absurd ⟨by omega, hp⟩ hn⟩
        · rw [if_neg ht]
          exact ⟨fun h5 => hj.1 ⟨by omega, h5.2⟩, fun h5 => hj.2 (fun q5 => h5 ⟨by omega, q5.2⟩)⟩
      · refine y_nv ?_
        refine y_zeq rfl rfl rfl (by decide) (fun g3 => ?_) (fun g3 => absurd g3 (by decide))
        refine y_inc (z := ((i + 1 : Nat) : Int)) (lv' := [(4, iv ((i + 1 : Nat) : Int)), (0, .ref 0), (1, iv x), (2, .ref (10 + 6 * x.toNat)), (3, iv r)]) rfl rfl rfl (by omega) rfl ?_
        refine y_go rfl rfl ?_
        refine y_lv (l' := [(0, .ref 0), (1, iv x), (2, .ref (10 + 6 * x.toNat)), (3, iv r), (4, iv ((i + 1 : Nat) : Int))]) rfl ⟨rfl, rfl, rfl, rfl, rfl, trivial⟩ ?_
        have u0 := b1.2.2.2.2.2.2.1 (4 * i + 0) (by omega)
        have w0 := b1.2.2.2.2.2.2.2 (4 * i + 0) (by omega)
        have u1 := b1.2.2.2.2.2.2.1 (4 * i + 1) (by omega)
        have w1 := b1.2.2.2.2.2.2.2 (4 * i + 1) (by omega)
        have u2 := b1.2.2.2.2.2.2.1 (4 * i + 2) (by omega)
        have w2 := b1.2.2.2.2.2.2.2 (4 * i + 2) (by omega)
        have u3 := b1.2.2.2.2.2.2.1 (4 * i + 3) (by omega)
        have w3 := b1.2.2.2.2.2.2.2 (4 * i + 3) (by omega)
        have hp : ¬ tuP σ x.toNat i := fun hf => hh ⟨u0.trans ((hf 0 (by decide)).trans w0.symm), u1.trans ((hf 1 (by decide)).trans w1.symm), u2.trans ((hf 2 (by decide)).trans w2.symm), u3.trans ((hf 3 (by decide)).trans w3.symm)⟩
        refine y_mono (ih (i + 1) r (by omega) (by omega) hr (fun t => ?_) hx2) (by omega)
        have hj := hJ t
        exact ⟨fun h5 => hj.1 ⟨by rcases (show t < i ∨ t = i by omega) with h6 | h6; exact h6; exact absurd (h6 ▸ h5.2) hp, h5.2⟩, fun h5 => hj.2 (fun q5 => h5 ⟨by omega, q5.2⟩)⟩
set_option maxRecDepth 100000 in
set_option maxHeartbeats 4000000 in
theorem cs_fall (hC : ClF S) {tl : Nat → List p_Li} {cnt : Nat} {σ : Nat → Int} (hRS : RS S V 1 σ tl) (hSO : SO cnt σ) {x : Int} (hx : (-2147483648 ≤ x ∧ x < 2147483648)) (k0 : ¬ (0 ≤ x ∧ x < σ 1) → K u w (some (iv (-1))) S V) (k1 : 0 ≤ x ∧ x < σ 1 → ∀ r : Int, 0 ≤ r ∧ r < 65536 → (∀ t : Nat, tuB σ x.toNat 16 t (r / 2 ^ t % 2)) → K u w (some (iv r)) S (v_ur V (10 + 6 * x.toNat + 3) (V (10 + 6 * x.toNat + 5)))) : y_R X 4 86 u w [.ref 0, iv x] S V K := by
  obtain ⟨n1, n2, n3, n4⟩ := hRS.1
  have hsz := hSO.1
  have hB : 0 ≤ V 1 5 ∧ V 1 5 ≤ 8 := by omega
  refine y_ent (lv' := [(0, .ref 0), (1, iv x)]) (Nat.le_of_ble_eq_true rfl) rfl ?_
  refine y_ld (x := .ref 0) rfl rfl (fun d => rfl) ?_
  refine y_gR (i := 0) rfl rfl rfl (hC 0 _ _ rfl) rfl ?_
  refine y_ld (x := iv x) rfl rfl (fun d => rfl) ?_
  refine y_cV (as := [.ref 1, iv x]) rfl rfl rfl rfl rfl (hC 1 _ _ rfl) ⟨rfl, (Nat.le_of_ble_eq_true rfl), (Nat.le_of_ble_eq_true rfl)⟩ (by decide) (cb_boxAt (x := x) hC hB (by omega) (fun gb1 => ?_) (fun gb1 => ?_))
  · refine y_nv ?_
    refine y_st (lv' := [(2, .null), (0, .ref 0), (1, iv x)]) rfl rfl (fun d => rfl) ?_
    refine y_ld (x := .null) rfl rfl (fun d => rfl) ?_
    refine y_in (pc' := 13) rfl rfl (fun d => rfl) ?_
    refine y_ic rfl rfl ?_
    refine y_rI rfl (Or.inl rfl) ?_
    exact k0 (by omega)
  · refine y_nv ?_
    refine y_st (lv' := [(2, .ref (10 + 6 * x.toNat)), (0, .ref 0), (1, iv x)]) rfl rfl (fun d => rfl) ?_
    refine y_ld (x := .ref (10 + 6 * x.toNat)) rfl rfl (fun d => rfl) ?_
    refine y_in (pc' := 15) rfl rfl (fun d => rfl) ?_
    refine y_ic rfl rfl ?_
    refine y_st (lv' := [(3, iv 0), (2, .ref (10 + 6 * x.toNat)), (0, .ref 0), (1, iv x)]) rfl rfl (fun d => rfl) ?_
    refine y_ic rfl rfl ?_
    refine y_st (lv' := [(4, iv 0), (3, iv 0), (2, .ref (10 + 6 * x.toNat)), (0, .ref 0), (1, iv x)]) rfl rfl (fun d => rfl) ?_
    refine y_lv (l' := [(0, .ref 0), (1, iv x), (2, .ref (10 + 6 * x.toNat)), (3, iv 0), (4, iv ((0 : Nat) : Int))]) rfl ⟨rfl, rfl, rfl, rfl, rfl, trivial⟩ ?_
    refine y_mono (lp_fall (F := 200) hC hRS hSO (x := x) (by omega) 17 0 0 (by omega) (by omega) (by decide) (fun t => ⟨fun hf => absurd hf.1 (by omega), fun _ => by rw [Int.zero_ediv]; rfl⟩) (fun r hr1 hr2 => ?_)) (by decide)
    refine y_ld (x := .ref (10 + 6 * x.toNat)) rfl rfl (fun d => rfl) ?_
    refine y_gR (i := 6) rfl rfl rfl (bx_ob hC (i := x.toNat) (by omega)) rfl ?_
    refine y_ld (x := .ref (10 + 6 * x.toNat)) rfl rfl (fun d => rfl) ?_
    refine y_gR (i := 7) rfl rfl rfl (bx_ob hC (i := x.toNat) (by omega)) rfl ?_
    refine y_cV (as := [.ref (10 + 6 * x.toNat + 2), .ref (10 + 6 * x.toNat + 4)]) rfl rfl rfl rfl rfl (bx_mem hC (i := x.toNat) (by omega)) ⟨rfl, (Nat.le_of_ble_eq_true rfl), (Nat.le_of_ble_eq_true rfl)⟩ (by decide) (cc_mbec ⟨(bx_mem hC (i := x.toNat) (by omega)), (bx_mcl hC (i := x.toNat) (by omega))⟩ ⟨(bx_cop hC (i := x.toNat) (by omega)), (bx_ccl hC (i := x.toNat) (by omega))⟩ ?_)
    refine y_n0 ?_
    refine y_ld (x := iv r) rfl rfl (fun d => rfl) ?_
    refine y_rI rfl (Or.inl rfl) ?_
    exact k1 (by omega) r hr1 hr2
end
end
section
/-! part, whole, fall: the reference -/
theorem n_xorm {n : Nat} (h : n < 2 ^ 32) : n ^^^ 4294967295 = 2 ^ 32 - (n + 1) := by
  apply Nat.eq_of_testBit_eq
  intro i
  rw [Nat.testBit_two_pow_sub_succ h, show (4294967295 : Nat) = 2 ^ 32 - 1 by decide, Nat.testBit_xor, Nat.testBit_two_pow_sub_one]
  by_cases hi : i < 32
  · simp [hi]
  · have : n.testBit i = false := Nat.testBit_lt_two_pow (Nat.lt_of_lt_of_le h (Nat.pow_le_pow_right (by decide) (by omega)))
    simp [hi, this]
theorem v_not {x : Int} (hx : 0 ≤ x ∧ x < 2147483648) : Int32.ofInt x ^^^ Int32.ofInt (-1) = Int32.ofInt (4294967295 - x) := by
  rw [show Int32.ofInt (-1) = Int32.ofInt 4294967295 by decide, v_xor hx.1 (by decide)]
  congr 1
  show ((x.toNat ^^^ 4294967295 : Nat) : Int) = _
  rw [n_xorm (by omega)]
  omega
def v_x2 (x : Int) (c : Nat) : Int := ((x.toNat &&& (2 ^ 32 - (2 ^ c + 1)) : Nat) : Int)
theorem v_x2_rg {x : Int} (hx : 0 ≤ x ∧ x < 65536) (c : Nat) : 0 ≤ v_x2 x c ∧ v_x2 x c < 65536 := by
  have h : x.toNat &&& (2 ^ 32 - (2 ^ c + 1)) ≤ x.toNat := Nat.and_le_left
  unfold v_x2
  omega
theorem v_andn {x : Int} (hx : 0 ≤ x ∧ x < 65536) {c : Nat} (hc : c < 16) : Int32.ofInt x &&& Int32.ofInt (4294967295 - 2 ^ c) = Int32.ofInt (v_x2 x c) := by
  have hp := v_p2 c
  have hp3 : (2 : Int) ^ c ≤ 32768 := z_p2le hc
  rw [v_and hx.1 (by omega)]
  unfold v_x2
  congr 4
  have e : (2 : Int) ^ c = ((2 ^ c : Nat) : Int) := by rw [Int.natCast_pow]; rfl
  rw [e] at hp3 ⊢
  have : (2 ^ 32 : Nat) = 4294967296 := by decide
  omega
theorem v_x2_bit {x : Int} (hx : 0 ≤ x ∧ x < 65536) {c : Nat} (hc : c < 16) (t : Nat) : v_x2 x c / 2 ^ t % 2 = if t = c then 0 else x / 2 ^ t % 2 := by
  rw [v_bitI (v_x2_rg hx c).1, v_bitI hx.1]
  unfold v_x2
  rw [Int.toNat_natCast, Nat.testBit_and, Nat.testBit_two_pow_sub_succ (Nat.pow_lt_pow_right (by decide) (by omega)), Nat.testBit_two_pow]
  by_cases h : t = c
  · subst h
    simp
  · rw [if_neg h]
    by_cases ht : t < 32
    · simp [ht, show ¬ c = t from fun e => h e.symm]
    · have : x.toNat.testBit t = false := Nat.testBit_lt_two_pow (Nat.lt_of_lt_of_le (show x.toNat < 2 ^ 16 by omega) (Nat.pow_le_pow_right (by decide) (by omega)))
      simp [this]
theorem v_and16 {x : Int} (hx : 0 ≤ x ∧ x < 65536) : Int32.ofInt x &&& Int32.ofInt 65535 = Int32.ofInt x := by
  rw [v_and hx.1 (by decide)]
  congr 1
  show ((x.toNat &&& 2 ^ 16 - 1 : Nat) : Int) = _
  rw [Nat.and_two_pow_sub_one_eq_mod, Nat.mod_eq_of_lt (by omega)]
  omega
theorem z_65535 : ∀ t : Nat, t < 16 → (65535 : Int) / 2 ^ t % 2 = 1 := by decide
/-- as tuB, so far -/
def tuM (σ : Nat → Int) (b k t : Nat) (v : Int) : Prop := ((∀ d : Nat, d < 4 → 4 * t + d < k → σ (200 + 84 * b + (4 * t + d)) = σ (880 + 84 * b + (4 * t + d))) → v = 1) ∧ (¬ (∀ d : Nat, d < 4 → 4 * t + d < k → σ (200 + 84 * b + (4 * t + d)) = σ (880 + 84 * b + (4 * t + d))) → v = 0)
theorem tuM_B {σ : Nat → Int} {b k t : Nat} {v : Int} (hk : 64 ≤ k) (ht : t < 16) (h : tuM σ b k t v) : tuB σ b 16 t v :=
  ⟨fun q => h.1 (fun d hd _ => q.2 d hd), fun q => h.2 (fun f => q ⟨ht, fun d hd => f d hd (by omega)⟩)⟩
def whQ (σ : Nat → Int) (a b c p : Nat) : Prop := (p < 64 → σ (200 + 84 * c + p) = σ (200 + 84 * (σ (1552 + 16 * a + p / 4)).toNat + p)) ∧ (64 ≤ p → σ (200 + 84 * c + p) = wr (σ (200 + 84 * a + p) + σ (200 + 84 * b + p)))
theorem whQ_P {σ : Nat → Int} {a b c : Nat} : whP σ a b c ↔ ∀ p : Nat, p < 84 → whQ σ a b c p :=
  ⟨fun h p hp => ⟨fun q => h.1 p q, fun q => h.2 p q hp⟩, fun h => ⟨fun p hp => (h p (by omega)).1 hp, fun p q hp => (h p hp).2 q⟩⟩
section
variable {X : Nat → List Int32} {u w : Nat} {S : m_H} {V : v_V} {K : v_K}
set_option maxRecDepth 100000 in
set_option maxHeartbeats 4000000 in
theorem ms_part (hM : MdS S) {tl : Nat → List p_Li} {cnt : Nat} (hSO : SO cnt (V 171)) (hTO : ∀ i : Nat, (i : Int) < V 171 0 → TO (tl i)) (hMTs : ∀ i : Nat, (i : Int) < V 171 0 → MT V i (tl i)) {x : Int} (hx : (-2147483648 ≤ x ∧ x < 2147483648)) {y : Int} (hy : (-2147483648 ≤ y ∧ y < 2147483648)) {d : Int} (hd : (-2147483648 ≤ d ∧ d < 2147483648)) {q : Int} (hq : (-2147483648 ≤ q ∧ q < 2147483648)) (k0 : ¬ ((0 ≤ x ∧ x < V 171 0) ∧ (0 ≤ y ∧ y ≤ 1) ∧ (0 ≤ d ∧ d ≤ 3) ∧ (0 ≤ q ∧ q ≤ 1)) → K u w (some (iv (-1))) S V) (k1 : (0 ≤ x ∧ x < V 171 0) ∧ (0 ≤ y ∧ y ≤ 1) ∧ (0 ≤ d ∧ d ≤ 3) ∧ (0 ≤ q ∧ q ≤ 1) → K u w (some (iv (ptA (gP (tl x.toNat) (y * 4 + d).toNat) q))) S V) : y_R X 3 126 u w [.ref 170, iv x, iv y, iv d, iv q] S V K := by
  have hsz := hSO.1
  have hT : 0 ≤ V 171 0 ∧ V 171 0 ≤ 8 := by omega
  refine y_ent (lv' := [(0, .ref 170), (1, iv x), (2, iv y), (3, iv d), (4, iv q)]) (Nat.le_of_ble_eq_true rfl) rfl ?_
  refine y_ld (x := .ref 170) rfl rfl (fun d => rfl) ?_
  refine y_ld (x := iv x) rfl rfl (fun d => rfl) ?_
  refine y_cV (as := [.ref 170, iv x]) rfl rfl rfl rfl rfl (md170 hM) ⟨rfl, (Nat.le_of_ble_eq_true rfl), (Nat.le_of_ble_eq_true rfl)⟩ (by decide) (ct_isText hM (by omega) ⟨rfl, by omega⟩ ?_)
  refine y_nv ?_
  refine y_beq rfl rfl rfl (fun g1 => ?_) (fun g1 => ?_)
  · refine y_ic rfl rfl ?_
    refine y_rI rfl (Or.inl rfl) ?_
    exact k0 (by omega)
  · refine y_ld (x := iv y) rfl rfl (fun d => rfl) ?_
    refine y_ic rfl rfl ?_
    refine y_ic rfl rfl ?_
    refine y_cS (as := [iv y, iv 0, iv 1]) rfl (by decide) rfl rfl rfl rfl ⟨(Nat.le_of_ble_eq_true rfl), (Nat.le_of_ble_eq_true rfl)⟩ (by decide) (ct_in (by omega) ?_)
    refine y_nv ?_
    refine y_beq rfl rfl rfl (fun g2 => ?_) (fun g2 => ?_)
    · refine y_ic rfl rfl ?_
      refine y_rI rfl (Or.inl rfl) ?_
      exact k0 (by omega)
    · refine y_ld (x := iv d) rfl rfl (fun d => rfl) ?_
      refine y_cS (as := [iv d]) rfl (by decide) rfl rfl rfl rfl ⟨(Nat.le_of_ble_eq_true rfl), (Nat.le_of_ble_eq_true rfl)⟩ (by decide) (ct_isFour (by omega) ?_)
      refine y_nv ?_
      refine y_beq rfl rfl rfl (fun g3 => ?_) (fun g3 => ?_)
      · refine y_ic rfl rfl ?_
        refine y_rI rfl (Or.inl rfl) ?_
        exact k0 (by omega)
      · refine y_ld (x := iv q) rfl rfl (fun d => rfl) ?_
        refine y_ic rfl rfl ?_
        refine y_ic rfl rfl ?_
        refine y_cS (as := [iv q, iv 0, iv 1]) rfl (by decide) rfl rfl rfl rfl ⟨(Nat.le_of_ble_eq_true rfl), (Nat.le_of_ble_eq_true rfl)⟩ (by decide) (ct_in (by omega) ?_)
        refine y_nv ?_
        refine y_bne rfl rfl rfl (fun g4 => ?_) (fun g4 => ?_)
        · refine y_ld (x := .ref 170) rfl rfl (fun d => rfl) ?_
          refine y_gR (i := 8) rfl rfl rfl (md170 hM) rfl ?_
          refine y_bi rfl rfl (by decide) ?_
          refine y_ld (x := iv x) rfl rfl (fun d => rfl) ?_
          refine y_mul (z := (8 * x)) rfl rfl rfl ?_
          refine y_ic rfl rfl ?_
          refine y_ld (x := iv y) rfl rfl (fun d => rfl) ?_
          refine y_mul (z := (4 * y)) rfl rfl rfl ?_
          refine y_add (z := ((8 * x) + (4 * y))) rfl rfl rfl ?_
          refine y_ld (x := iv d) rfl rfl (fun d => rfl) ?_
          refine y_add (z := (((8 * x) + (4 * y)) + d)) rfl rfl rfl ?_
          refine y_ild (x := (V 177 (8 * x.toNat + (y * 4 + d).toNat))) (q := (8 * x.toNat + (y * 4 + d).toNat)) rfl rfl (md177 hM) (by omega) (by decide) (by omega) rfl ?_
          refine y_st (lv' := [(5, iv (V 177 (8 * x.toNat + (y * 4 + d).toNat))), (0, .ref 170), (1, iv x), (2, iv y), (3, iv d), (4, iv q)]) rfl rfl (fun d => rfl) ?_
          have hl := hTO x.toNat (by omega)
          have hMx := hMTs x.toNat (by omega)
          have e7 : V 177 (8 * x.toNat + (y * 4 + d).toNat) = mkP 0 (fun _ => 0) (tl x.toNat) (y * 4 + d).toNat := hMx.2.2.2.2 _ (by omega)
          have hg : 0 ≤ mkP 0 (fun _ => 0) (tl x.toNat) (y * 4 + d).toNat ∧ mkP 0 (fun _ => 0) (tl x.toNat) (y * 4 + d).toNat ≤ 10 := gP_rg hl (by omega)
          refine y_ld (x := iv q) rfl rfl (fun d => rfl) ?_
          refine y_zne rfl rfl rfl (by omega) (fun g5 => ?_) (fun g5 => ?_)
          · refine y_ld (x := iv (V 177 (8 * x.toNat + (y * 4 + d).toNat))) rfl rfl (fun d => rfl) ?_
            refine y_ic rfl rfl ?_
            refine y_jle rfl rfl rfl (by omega) (fun g6 => ?_) (fun g6 => ?_)
            · refine y_bi rfl rfl (by decide) ?_
              refine y_rI rfl (Or.inl rfl) ?_
              have k2 := k1 (by omega)
              have e9 : ptA (mkP 0 (fun _ => 0) (tl x.toNat) (y * 4 + d).toNat) q = -5 := by
                unfold ptA
                rw [if_pos (by omega), if_neg (by omega)]
              rwa [e9] at k2
            · refine y_ld (x := iv (V 177 (8 * x.toNat + (y * 4 + d).toNat))) rfl rfl (fun d => rfl) ?_
              refine y_ic rfl rfl ?_
              refine y_sub (z := ((V 177 (8 * x.toNat + (y * 4 + d).toNat)) - 2)) rfl rfl rfl ?_
              refine y_go rfl rfl ?_
              refine y_rI rfl (Or.inl rfl) ?_
              have k2 := k1 (by omega)
              have e9 : ptA (mkP 0 (fun _ => 0) (tl x.toNat) (y * 4 + d).toNat) q = (V 177 (8 * x.toNat + (y * 4 + d).toNat)) - 2 := by
                unfold ptA
                rw [if_pos (by omega), if_pos (by omega), e7]
              rwa [e9] at k2
          · refine y_ld (x := iv (V 177 (8 * x.toNat + (y * 4 + d).toNat))) rfl rfl (fun d => rfl) ?_
            refine y_ic rfl rfl ?_
            refine y_jle rfl rfl rfl (by omega) (fun g7 => ?_) (fun g7 => ?_)
            · refine y_ld (x := iv (V 177 (8 * x.toNat + (y * 4 + d).toNat))) rfl rfl (fun d => rfl) ?_
              refine y_go rfl rfl ?_
              refine y_rI rfl (Or.inl rfl) ?_
              have k2 := k1 (by omega)
              have e9 : ptA (mkP 0 (fun _ => 0) (tl x.toNat) (y * 4 + d).toNat) q = V 177 (8 * x.toNat + (y * 4 + d).toNat) := by
                unfold ptA
                rw [if_neg (by omega), e7]
                by_cases h2 : 1 < mkP 0 (fun _ => 0) (tl x.toNat) (y * 4 + d).toNat
                · rw [if_pos h2]; omega
                · rw [if_neg h2]; split <;> omega
              rwa [e9] at k2
            · refine y_ic rfl rfl ?_
              refine y_go rfl rfl ?_
              refine y_rI rfl (Or.inl rfl) ?_
              have k2 := k1 (by omega)
              have e9 : ptA (mkP 0 (fun _ => 0) (tl x.toNat) (y * 4 + d).toNat) q = 2 := by
                unfold ptA
                rw [if_neg (by omega), if_pos (by omega)]
              rwa [e9] at k2
        · refine y_ic rfl rfl ?_
          refine y_rI rfl (Or.inl rfl) ?_
          exact k0 (by omega)
set_option maxRecDepth 100000 in
set_option maxHeartbeats 4000000 in
theorem lq_whole (hM : MdS S) {cnt : Nat} (hSO : SO cnt (V 171)) {x y q : Int} (hx : 0 ≤ x ∧ x < V 171 1) (hy : 0 ≤ y ∧ y < V 171 1) (hq : 0 ≤ q ∧ q < V 171 1) (k2 : whP (V 171) x.toNat y.toNat q.toNat → K u w (some (iv 1)) S V) (k3 : ¬ whP (V 171) x.toNat y.toNat q.toNat → K u w (some (iv 0)) S V) {F : Nat} : ∀ (m : Nat) (k : Nat) (e : Int), 84 - k < m → (k ≤ 84) → ((e = 1 ∧ ∀ p : Nat, p < k → whQ (V 171) x.toNat y.toNat q.toNat p) ∨ (e = 0 ∧ ¬ ∀ p : Nat, p < k → whQ (V 171) x.toNat y.toNat q.toNat p)) → y_E X 3 150 (100 * m + F) u w 50 [(0, .ref 170), (1, iv x), (2, iv y), (3, iv q), (4, iv e), (5, iv (k : Int))] [] S V K := by
  intro m
  induction m with
  | zero => intros; omega
  | succ m ih =>
    intro k e hm hI hJ 
    refine y_mono (F' := (100 * m + F) + 100) ?_ (by omega)
    refine y_ld (x := iv (k : Int)) rfl rfl (fun d => rfl) ?_
    refine y_bi rfl rfl (by decide) ?_
    refine y_jge rfl rfl rfl (by omega) (fun g1 => ?_) (fun g1 => ?_)
    · obtain rfl : k = 84 := by omega
      rcases hJ with ⟨rfl, hJ⟩ | ⟨rfl, hJ⟩
      · refine y_ld (x := iv 1) rfl rfl (fun d => rfl) ?_
        refine y_zeq rfl rfl rfl (by decide) (fun g2 => absurd g2 (by decide)) (fun g2 => ?_)
        refine y_ic rfl rfl ?_
        refine y_go rfl rfl ?_
        refine y_rI rfl (Or.inl rfl) ?_
        exact k2 (whQ_P.mpr hJ)
      · refine y_ld (x := iv 0) rfl rfl (fun d => rfl) ?_
        refine y_zeq rfl rfl rfl (by decide) (fun g3 => ?_) (fun g3 => absurd g3 (by decide))
        refine y_ic rfl rfl ?_
        refine y_rI rfl (Or.inl rfl) ?_
        exact k3 (fun h => hJ (whQ_P.mp h))
    · have hsz := hSO.1
      have hra := (hSO.2.2.1 x.toNat (by omega)).2.2.2.2.1
      have hrb := (hSO.2.2.1 y.toNat (by omega)).2.2.2.2.1
      have hrc := (hSO.2.2.1 q.toNat (by omega)).2.2.2.2.1 k (by omega)
      have hrc2 : -2147483648 ≤ V 171 (200 + 84 * q.toNat + k) ∧ V 171 (200 + 84 * q.toNat + k) < 2147483648 := hrc
      rcases hJ with ⟨rfl, hJ⟩ | ⟨rfl, hJ⟩
      · refine y_ld (x := iv (k : Int)) rfl rfl (fun d => rfl) ?_
        refine y_bi rfl rfl (by decide) ?_
        refine y_jge rfl rfl rfl (by omega) (fun g4 => ?_) (fun g4 => ?_)
        · refine y_ld (x := .ref 170) rfl rfl (fun d => rfl) ?_
          refine y_gR (i := 1) rfl rfl rfl (md170 hM) rfl ?_
          refine y_si rfl rfl (by decide) ?_
          refine y_bi rfl rfl (by decide) ?_
          refine y_ld (x := iv x) rfl rfl (fun d => rfl) ?_
          refine y_mul (z := (84 * x)) rfl rfl rfl ?_
          refine y_add (z := (200 + (84 * x))) rfl rfl rfl ?_
          refine y_ld (x := iv (k : Int)) rfl rfl (fun d => rfl) ?_
          refine y_add (z := ((200 + (84 * x)) + (k : Int))) rfl rfl rfl ?_
          refine y_ild (x := (V 171 (200 + 84 * x.toNat + k))) (q := (200 + 84 * x.toNat + k)) rfl rfl (md171 hM) (by omega) (by decide) (by omega) rfl ?_
          refine y_ld (x := .ref 170) rfl rfl (fun d => rfl) ?_
          refine y_gR (i := 1) rfl rfl rfl (md170 hM) rfl ?_
          refine y_si rfl rfl (by decide) ?_
          refine y_bi rfl rfl (by decide) ?_
          refine y_ld (x := iv y) rfl rfl (fun d => rfl) ?_
          refine y_mul (z := (84 * y)) rfl rfl rfl ?_
          refine y_add (z := (200 + (84 * y))) rfl rfl rfl ?_
          refine y_ld (x := iv (k : Int)) rfl rfl (fun d => rfl) ?_
          refine y_add (z := ((200 + (84 * y)) + (k : Int))) rfl rfl rfl ?_
          refine y_ild (x := (V 171 (200 + 84 * y.toNat + k))) (q := (200 + 84 * y.toNat + k)) rfl rfl (md171 hM) (by omega) (by decide) (by omega) rfl ?_
          refine y_add (z := ((V 171 (200 + 84 * x.toNat + k)) + (V 171 (200 + 84 * y.toNat + k)))) rfl rfl rfl ?_
          refine y_top (wr_iv _) ?_
          have hw := wr_rg (V 171 (200 + 84 * x.toNat + k) + V 171 (200 + 84 * y.toNat + k))
          refine y_st (lv' := [(6, iv (wr (V 171 (200 + 84 * x.toNat + k) + V 171 (200 + 84 * y.toNat + k)))), (0, .ref 170), (1, iv x), (2, iv y), (3, iv q), (4, iv 1), (5, iv (k : Int))]) rfl rfl (fun d => rfl) ?_
          refine y_ld (x := iv 1) rfl rfl (fun d => rfl) ?_
          refine y_zeq rfl rfl rfl (by decide) (fun g5 => absurd g5 (by decide)) (fun g5 => ?_)
          refine y_ld (x := iv (wr (V 171 (200 + 84 * x.toNat + k) + V 171 (200 + 84 * y.toNat + k)))) rfl rfl (fun d => rfl) ?_
          refine y_ld (x := .ref 170) rfl rfl (fun d => rfl) ?_
          refine y_gR (i := 1) rfl rfl rfl (md170 hM) rfl ?_
          refine y_si rfl rfl (by decide) ?_
          refine y_bi rfl rfl (by decide) ?_
          refine y_ld (x := iv q) rfl rfl (fun d => rfl) ?_
          refine y_mul (z := (84 * q)) rfl rfl rfl ?_
          refine y_add (z := (200 + (84 * q))) rfl rfl rfl ?_
          refine y_ld (x := iv (k : Int)) rfl rfl (fun d => rfl) ?_
          refine y_add (z := ((200 + (84 * q)) + (k : Int))) rfl rfl rfl ?_
          refine y_ild (x := (V 171 (200 + 84 * q.toNat + k))) (q := (200 + 84 * q.toNat + k)) rfl rfl (md171 hM) (by omega) (by decide) (by omega) rfl ?_
          refine y_jne rfl rfl rfl (by omega) (fun g6 => ?_) (fun g6 => ?_)
          · refine y_ic rfl rfl ?_
            refine y_st (lv' := [(4, iv 0), (6, iv (wr (V 171 (200 + 84 * x.toNat + k) + V 171 (200 + 84 * y.toNat + k)))), (0, .ref 170), (1, iv x), (2, iv y), (3, iv q), (5, iv (k : Int))]) rfl rfl (fun d => rfl) ?_
            refine y_inc (z := ((k + 1 : Nat) : Int)) (lv' := [(5, iv ((k + 1 : Nat) : Int)), (4, iv 0), (6, iv (wr (V 171 (200 + 84 * x.toNat + k) + V 171 (200 + 84 * y.toNat + k)))), (0, .ref 170), (1, iv x), (2, iv y), (3, iv q)]) rfl rfl rfl (by omega) rfl ?_
            refine y_go rfl rfl ?_
            refine y_lv (l' := [(0, .ref 170), (1, iv x), (2, iv y), (3, iv q), (4, iv 0), (5, iv ((k + 1 : Nat) : Int))]) rfl ⟨rfl, rfl, rfl, rfl, rfl, rfl, trivial⟩ ?_
            have hq : ¬ whQ (V 171) x.toNat y.toNat q.toNat k := fun hq => (by have h2 := hq.2 (by omega); omega)
            exact y_mono (ih (k + 1) 0 (by omega) (by omega) (Or.inr ⟨rfl, fun hf => hq (hf k (by omega))⟩)) (by omega)
          · refine y_ic rfl rfl ?_
            refine y_go rfl rfl ?_
            refine y_st (lv' := [(4, iv 1), (6, iv (wr (V 171 (200 + 84 * x.toNat + k) + V 171 (200 + 84 * y.toNat + k)))), (0, .ref 170), (1, iv x), (2, iv y), (3, iv q), (5, iv (k : Int))]) rfl rfl (fun d => rfl) ?_
            refine y_inc (z := ((k + 1 : Nat) : Int)) (lv' := [(5, iv ((k + 1 : Nat) : Int)), (4, iv 1), (6, iv (wr (V 171 (200 + 84 * x.toNat + k) + V 171 (200 + 84 * y.toNat + k)))), (0, .ref 170), (1, iv x), (2, iv y), (3, iv q)]) rfl rfl rfl (by omega) rfl ?_
            refine y_go rfl rfl ?_
            refine y_lv (l' := [(0, .ref 170), (1, iv x), (2, iv y), (3, iv q), (4, iv 1), (5, iv ((k + 1 : Nat) : Int))]) rfl ⟨rfl, rfl, rfl, rfl, rfl, rfl, trivial⟩ ?_
            have hq : whQ (V 171) x.toNat y.toNat q.toNat k := ⟨fun h => absurd h (by omega), fun _ => by omega⟩
            exact y_mono (ih (k + 1) 1 (by omega) (by omega) (Or.inl ⟨rfl, fun p hp => by rcases (show p < k ∨ p = k by omega) with h | h; exact hJ p h; exact h ▸ hq⟩)) (by omega)
        · have hL := hSO.2.2.2.1 x.toNat (by omega) (k / 4) (by omega)
          have hl1 := hL.2.2 (by omega)
          obtain ⟨c, hc⟩ : ∃ c : Nat, V 171 (1552 + 16 * x.toNat + k / 4) = (c : Int) := ⟨(V 171 (1552 + 16 * x.toNat + k / 4)).toNat, by omega⟩
          have hrd := (hSO.2.2.1 c (by omega)).2.2.2.2.1 k (by omega)
          have hrd2 : -2147483648 ≤ V 171 (200 + 84 * c + k) ∧ V 171 (200 + 84 * c + k) < 2147483648 := hrd
          refine y_ld (x := .ref 170) rfl rfl (fun d => rfl) ?_
          refine y_gR (i := 1) rfl rfl rfl (md170 hM) rfl ?_
          refine y_si rfl rfl (by decide) ?_
          refine y_bi rfl rfl (by decide) ?_
          refine y_ld (x := .ref 170) rfl rfl (fun d => rfl) ?_
          refine y_gR (i := 1) rfl rfl rfl (md170 hM) rfl ?_
          refine y_si rfl rfl (by decide) ?_
          refine y_bi rfl rfl (by decide) ?_
          refine y_ld (x := iv x) rfl rfl (fun d => rfl) ?_
          refine y_mul (z := (16 * x)) rfl rfl rfl ?_
          refine y_add (z := (1552 + (16 * x))) rfl rfl rfl ?_
          refine y_ld (x := iv (k : Int)) rfl rfl (fun d => rfl) ?_
          refine y_ic rfl rfl ?_
          refine y_op (z := ((k / 4 : Nat) : Int)) rfl rfl (fun d => rfl) ((v_div (by omega) (by decide)).trans (congrArg Int32.ofInt (by omega))) ?_
          refine y_add (z := ((1552 + (16 * x)) + ((k / 4 : Nat) : Int))) rfl rfl rfl ?_
          refine y_ild (x := (c : Int)) (q := (1552 + 16 * x.toNat + k / 4)) rfl rfl (md171 hM) (by omega) (by decide) (by omega) hc ?_
          refine y_mul (z := (84 * (c : Int))) rfl rfl rfl ?_
          refine y_add (z := (200 + (84 * (c : Int)))) rfl rfl rfl ?_
          refine y_ld (x := iv (k : Int)) rfl rfl (fun d => rfl) ?_
          refine y_add (z := ((200 + (84 * (c : Int))) + (k : Int))) rfl rfl rfl ?_
          refine y_ild (x := (V 171 (200 + 84 * c + k))) (q := (200 + 84 * c + k)) rfl rfl (md171 hM) (by omega) (by decide) (by omega) rfl ?_
          refine y_go rfl rfl ?_
          refine y_st (lv' := [(6, iv (V 171 (200 + 84 * c + k))), (0, .ref 170), (1, iv x), (2, iv y), (3, iv q), (4, iv 1), (5, iv (k : Int))]) rfl rfl (fun d => rfl) ?_
          refine y_ld (x := iv 1) rfl rfl (fun d => rfl) ?_
          refine y_zeq rfl rfl rfl (by decide) (fun g7 => absurd g7 (by decide)) (fun g7 => ?_)
          refine y_ld (x := iv (V 171 (200 + 84 * c + k))) rfl rfl (fun d => rfl) ?_
          refine y_ld (x := .ref 170) rfl rfl (fun d => rfl) ?_
          refine y_gR (i := 1) rfl rfl rfl (md170 hM) rfl ?_
          refine y_si rfl rfl (by decide) ?_
          refine y_bi rfl rfl (by decide) ?_
          refine y_ld (x := iv q) rfl rfl (fun d => rfl) ?_
          refine y_mul (z := (84 * q)) rfl rfl rfl ?_
          refine y_add (z := (200 + (84 * q))) rfl rfl rfl ?_
          refine y_ld (x := iv (k : Int)) rfl rfl (fun d => rfl) ?_
          refine y_add (z := ((200 + (84 * q)) + (k : Int))) rfl rfl rfl ?_
          refine y_ild (x := (V 171 (200 + 84 * q.toNat + k))) (q := (200 + 84 * q.toNat + k)) rfl rfl (md171 hM) (by omega) (by decide) (by omega) rfl ?_
          refine y_jne rfl rfl rfl (by omega) (fun g8 => ?_) (fun g8 => ?_)
          · refine y_ic rfl rfl ?_
            refine y_st (lv' := [(4, iv 0), (6, iv (V 171 (200 + 84 * c + k))), (0, .ref 170), (1, iv x), (2, iv y), (3, iv q), (5, iv (k : Int))]) rfl rfl (fun d => rfl) ?_
            refine y_inc (z := ((k + 1 : Nat) : Int)) (lv' := [(5, iv ((k + 1 : Nat) : Int)), (4, iv 0), (6, iv (V 171 (200 + 84 * c + k))), (0, .ref 170), (1, iv x), (2, iv y), (3, iv q)]) rfl rfl rfl (by omega) rfl ?_
            refine y_go rfl rfl ?_
            refine y_lv (l' := [(0, .ref 170), (1, iv x), (2, iv y), (3, iv q), (4, iv 0), (5, iv ((k + 1 : Nat) : Int))]) rfl ⟨rfl, rfl, rfl, rfl, rfl, rfl, trivial⟩ ?_
            have hq : ¬ whQ (V 171) x.toNat y.toNat q.toNat k := fun hq => (by have h2 := hq.1 (by omega); rw [hc, Int.toNat_natCast] at h2; omega)
            exact y_mono (ih (k + 1) 0 (by omega) (by omega) (Or.inr ⟨rfl, fun hf => hq (hf k (by omega))⟩)) (by omega)
          · refine y_ic rfl rfl ?_
            refine y_go rfl rfl ?_
            refine y_st (lv' := [(4, iv 1), (6, iv (V 171 (200 + 84 * c + k))), (0, .ref 170), (1, iv x), (2, iv y), (3, iv q), (5, iv (k : Int))]) rfl rfl (fun d => rfl) ?_
            refine y_inc (z := ((k + 1 : Nat) : Int)) (lv' := [(5, iv ((k + 1 : Nat) : Int)), (4, iv 1), (6, iv (V 171 (200 + 84 * c + k))), (0, .ref 170), (1, iv x), (2, iv y), (3, iv q)]) rfl rfl rfl (by omega) rfl ?_
            refine y_go rfl rfl ?_
            refine y_lv (l' := [(0, .ref 170), (1, iv x), (2, iv y), (3, iv q), (4, iv 1), (5, iv ((k + 1 : Nat) : Int))]) rfl ⟨rfl, rfl, rfl, rfl, rfl, rfl, trivial⟩ ?_
            have hq : whQ (V 171) x.toNat y.toNat q.toNat k := ⟨fun _ => by rw [hc, Int.toNat_natCast]; omega, fun h => absurd h (by omega)⟩
            exact y_mono (ih (k + 1) 1 (by omega) (by omega) (Or.inl ⟨rfl, fun p hp => by rcases (show p < k ∨ p = k by omega) with h | h; exact hJ p h; exact h ▸ hq⟩)) (by omega)
      · refine y_ld (x := iv (k : Int)) rfl rfl (fun d => rfl) ?_
        refine y_bi rfl rfl (by decide) ?_
        refine y_jge rfl rfl rfl (by omega) (fun g9 => ?_) (fun g9 => ?_)
        · refine y_ld (x := .ref 170) rfl rfl (fun d => rfl) ?_
          refine y_gR (i := 1) rfl rfl rfl (md170 hM) rfl ?_
          refine y_si rfl rfl (by decide) ?_
          refine y_bi rfl rfl (by decide) ?_
          refine y_ld (x := iv x) rfl rfl (fun d => rfl) ?_
          refine y_mul (z := (84 * x)) rfl rfl rfl ?_
          refine y_add (z := (200 + (84 * x))) rfl rfl rfl ?_
          refine y_ld (x := iv (k : Int)) rfl rfl (fun d => rfl) ?_
          refine y_add (z := ((200 + (84 * x)) + (k : Int))) rfl rfl rfl ?_
          refine y_ild (x := (V 171 (200 + 84 * x.toNat + k))) (q := (200 + 84 * x.toNat + k)) rfl rfl (md171 hM) (by omega) (by decide) (by omega) rfl ?_
          refine y_ld (x := .ref 170) rfl rfl (fun d => rfl) ?_
          refine y_gR (i := 1) rfl rfl rfl (md170 hM) rfl ?_
          refine y_si rfl rfl (by decide) ?_
          refine y_bi rfl rfl (by decide) ?_
          refine y_ld (x := iv y) rfl rfl (fun d => rfl) ?_
          refine y_mul (z := (84 * y)) rfl rfl rfl ?_
          refine y_add (z := (200 + (84 * y))) rfl rfl rfl ?_
          refine y_ld (x := iv (k : Int)) rfl rfl (fun d => rfl) ?_
          refine y_add (z := ((200 + (84 * y)) + (k : Int))) rfl rfl rfl ?_
          refine y_ild (x := (V 171 (200 + 84 * y.toNat + k))) (q := (200 + 84 * y.toNat + k)) rfl rfl (md171 hM) (by omega) (by decide) (by omega) rfl ?_
          refine y_add (z := ((V 171 (200 + 84 * x.toNat + k)) + (V 171 (200 + 84 * y.toNat + k)))) rfl rfl rfl ?_
          refine y_top (wr_iv _) ?_
          have hw := wr_rg (V 171 (200 + 84 * x.toNat + k) + V 171 (200 + 84 * y.toNat + k))
          refine y_st (lv' := [(6, iv (wr (V 171 (200 + 84 * x.toNat + k) + V 171 (200 + 84 * y.toNat + k)))), (0, .ref 170), (1, iv x), (2, iv y), (3, iv q), (4, iv 0), (5, iv (k : Int))]) rfl rfl (fun d => rfl) ?_
          refine y_ld (x := iv 0) rfl rfl (fun d => rfl) ?_
          refine y_zeq rfl rfl rfl (by decide) (fun g10 => ?_) (fun g10 => absurd g10 (by decide))
          refine y_ic rfl rfl ?_
          refine y_st (lv' := [(4, iv 0), (6, iv (wr (V 171 (200 + 84 * x.toNat + k) + V 171 (200 + 84 * y.toNat + k)))), (0, .ref 170), (1, iv x), (2, iv y), (3, iv q), (5, iv (k : Int))]) rfl rfl (fun d => rfl) ?_
          refine y_inc (z := ((k + 1 : Nat) : Int)) (lv' := [(5, iv ((k + 1 : Nat) : Int)), (4, iv 0), (6, iv (wr (V 171 (200 + 84 * x.toNat + k) + V 171 (200 + 84 * y.toNat + k)))), (0, .ref 170), (1, iv x), (2, iv y), (3, iv q)]) rfl rfl rfl (by omega) rfl ?_
          refine y_go rfl rfl ?_
          refine y_lv (l' := [(0, .ref 170), (1, iv x), (2, iv y), (3, iv q), (4, iv 0), (5, iv ((k + 1 : Nat) : Int))]) rfl ⟨rfl, rfl, rfl, rfl, rfl, rfl, trivial⟩ ?_
          exact y_mono (ih (k + 1) 0 (by omega) (by omega) (Or.inr ⟨rfl, fun hf => hJ (fun p hp => hf p (by omega))⟩)) (by omega)
        · have hL := hSO.2.2.2.1 x.toNat (by omega) (k / 4) (by omega)
          have hl1 := hL.2.2 (by omega)
          obtain ⟨c, hc⟩ : ∃ c : Nat, V 171 (1552 + 16 * x.toNat + k / 4) = (c : Int) := ⟨(V 171 (1552 + 16 * x.toNat + k / 4)).toNat, by omega⟩
          have hrd := (hSO.2.2.1 c (by omega)).2.2.2.2.1 k (by omega)
          have hrd2 : -2147483648 ≤ V 171 (200 + 84 * c + k) ∧ V 171 (200 + 84 * c + k) < 2147483648 := hrd
          refine y_ld (x := .ref 170) rfl rfl (fun d => rfl) ?_
          refine y_gR (i := 1) rfl rfl rfl (md170 hM) rfl ?_
          refine y_si rfl rfl (by decide) ?_
          refine y_bi rfl rfl (by decide) ?_
          refine y_ld (x := .ref 170) rfl rfl (fun d => rfl) ?_
          refine y_gR (i := 1) rfl rfl rfl (md170 hM) rfl ?_
          refine y_si rfl rfl (by decide) ?_
          refine y_bi rfl rfl (by decide) ?_
          refine y_ld (x := iv x) rfl rfl (fun d => rfl) ?_
          refine y_mul (z := (16 * x)) rfl rfl rfl ?_
          refine y_add (z := (1552 + (16 * x))) rfl rfl rfl ?_
          refine y_ld (x := iv (k : Int)) rfl rfl (fun d => rfl) ?_
          refine y_ic rfl rfl ?_
          refine y_op (z := ((k / 4 : Nat) : Int)) rfl rfl (fun d => rfl) ((v_div (by omega) (by decide)).trans (congrArg Int32.ofInt (by omega))) ?_
          refine y_add (z := ((1552 + (16 * x)) + ((k / 4 : Nat) : Int))) rfl rfl rfl ?_
          refine y_ild (x := (c : Int)) (q := (1552 + 16 * x.toNat + k / 4)) rfl rfl (md171 hM) (by omega) (by decide) (by omega) hc ?_
          refine y_mul (z := (84 * (c : Int))) rfl rfl rfl ?_
          refine y_add (z := (200 + (84 * (c : Int)))) rfl rfl rfl ?_
          refine y_ld (x := iv (k : Int)) rfl rfl (fun d => rfl) ?_
          refine y_add (z := ((200 + (84 * (c : Int))) + (k : Int))) rfl rfl rfl ?_
          refine y_ild (x := (V 171 (200 + 84 * c + k))) (q := (200 + 84 * c + k)) rfl rfl (md171 hM) (by omega) (by decide) (by omega) rfl ?_
          refine y_go rfl rfl ?_
          refine y_st (lv' := [(6, iv (V 171 (200 + 84 * c + k))), (0, .ref 170), (1, iv x), (2, iv y), (3, iv q), (4, iv 0), (5, iv (k : Int))]) rfl rfl (fun d => rfl) ?_
          refine y_ld (x := iv 0) rfl rfl (fun d => rfl) ?_
          refine y_zeq rfl rfl rfl (by decide) (fun g11 => ?_) (fun g11 => absurd g11 (by decide))
          refine y_ic rfl rfl ?_
          refine y_st (lv' := [(4, iv 0), (6, iv (V 171 (200 + 84 * c + k))), (0, .ref 170), (1, iv x), (2, iv y), (3, iv q), (5, iv (k : Int))]) rfl rfl (fun d => rfl) ?_
          refine y_inc (z := ((k + 1 : Nat) : Int)) (lv' := [(5, iv ((k + 1 : Nat) : Int)), (4, iv 0), (6, iv (V 171 (200 + 84 * c + k))), (0, .ref 170), (1, iv x), (2, iv y), (3, iv q)]) rfl rfl rfl (by omega) rfl ?_
          refine y_go rfl rfl ?_
          refine y_lv (l' := [(0, .ref 170), (1, iv x), (2, iv y), (3, iv q), (4, iv 0), (5, iv ((k + 1 : Nat) : Int))]) rfl ⟨rfl, rfl, rfl, rfl, rfl, rfl, trivial⟩ ?_
          exact y_mono (ih (k + 1) 0 (by omega) (by omega) (Or.inr ⟨rfl, fun hf => hJ (fun p hp => hf p (by omega))⟩)) (by omega)
set_option maxRecDepth 100000 in
set_option maxHeartbeats 4000000 in
theorem ms_whole (hM : MdS S) {cnt : Nat} (hSO : SO cnt (V 171)) {x : Int} (hx : (-2147483648 ≤ x ∧ x < 2147483648)) {y : Int} (hy : (-2147483648 ≤ y ∧ y < 2147483648)) {q : Int} (hq : (-2147483648 ≤ q ∧ q < 2147483648)) (k0 : ¬ ((0 ≤ x ∧ x < V 171 1) ∧ (0 ≤ y ∧ y < V 171 1) ∧ (0 ≤ q ∧ q < V 171 1)) → K u w (some (iv (-1))) S V) (k1 : ((0 ≤ x ∧ x < V 171 1) ∧ (0 ≤ y ∧ y < V 171 1) ∧ (0 ≤ q ∧ q < V 171 1)) → (x = y ∨ x = q ∨ y = q) → K u w (some (iv (-2))) S V) (k2 : ((0 ≤ x ∧ x < V 171 1) ∧ (0 ≤ y ∧ y < V 171 1) ∧ (0 ≤ q ∧ q < V 171 1)) → ¬ (x = y ∨ x = q ∨ y = q) → whP (V 171) x.toNat y.toNat q.toNat → K u w (some (iv 1)) S V) (k3 : ((0 ≤ x ∧ x < V 171 1) ∧ (0 ≤ y ∧ y < V 171 1) ∧ (0 ≤ q ∧ q < V 171 1)) → ¬ (x = y ∨ x = q ∨ y = q) → ¬ whP (V 171) x.toNat y.toNat q.toNat → K u w (some (iv 0)) S V) : y_R X 4 150 u w [.ref 170, iv x, iv y, iv q] S V K := by
  have hsz := hSO.1
  have hB : 0 ≤ V 171 1 ∧ V 171 1 ≤ 8 := by omega
  refine y_ent (lv' := [(0, .ref 170), (1, iv x), (2, iv y), (3, iv q)]) (Nat.le_of_ble_eq_true rfl) rfl ?_
  refine y_ld (x := .ref 170) rfl rfl (fun d => rfl) ?_
  refine y_ld (x := iv x) rfl rfl (fun d => rfl) ?_
  refine y_cV (as := [.ref 170, iv x]) rfl rfl rfl rfl rfl (md170 hM) ⟨rfl, (Nat.le_of_ble_eq_true rfl), (Nat.le_of_ble_eq_true rfl)⟩ (by decide) (ct_isBox hM (by omega) ⟨rfl, by omega⟩ ?_)
  refine y_nv ?_
  refine y_beq rfl rfl rfl (fun g1 => ?_) (fun g1 => ?_)
  · refine y_ic rfl rfl ?_
    refine y_rI rfl (Or.inl rfl) ?_
    exact k0 (by omega)
  · refine y_ld (x := .ref 170) rfl rfl (fun d => rfl) ?_
    refine y_ld (x := iv y) rfl rfl (fun d => rfl) ?_
    refine y_cV (as := [.ref 170, iv y]) rfl rfl rfl rfl rfl (md170 hM) ⟨rfl, (Nat.le_of_ble_eq_true rfl), (Nat.le_of_ble_eq_true rfl)⟩ (by decide) (ct_isBox hM (by omega) ⟨rfl, by omega⟩ ?_)
    refine y_nv ?_
    refine y_beq rfl rfl rfl (fun g2 => ?_) (fun g2 => ?_)
    · refine y_ic rfl rfl ?_
      refine y_rI rfl (Or.inl rfl) ?_
      exact k0 (by omega)
    · refine y_ld (x := .ref 170) rfl rfl (fun d => rfl) ?_
      refine y_ld (x := iv q) rfl rfl (fun d => rfl) ?_
      refine y_cV (as := [.ref 170, iv q]) rfl rfl rfl rfl rfl (md170 hM) ⟨rfl, (Nat.le_of_ble_eq_true rfl), (Nat.le_of_ble_eq_true rfl)⟩ (by decide) (ct_isBox hM (by omega) ⟨rfl, by omega⟩ ?_)
      refine y_nv ?_
      refine y_bne rfl rfl rfl (fun g3 => ?_) (fun g3 => ?_)
      · refine y_ld (x := iv x) rfl rfl (fun d => rfl) ?_
        refine y_ld (x := iv y) rfl rfl (fun d => rfl) ?_
        refine y_jeq rfl rfl rfl (by omega) (fun g4 => ?_) (fun g4 => ?_)
        · refine y_bi rfl rfl (by decide) ?_
          refine y_rI rfl (Or.inl rfl) ?_
          exact k1 (by omega) (by omega)
        · refine y_ld (x := iv x) rfl rfl (fun d => rfl) ?_
          refine y_ld (x := iv q) rfl rfl (fun d => rfl) ?_
          refine y_jeq rfl rfl rfl (by omega) (fun g5 => ?_) (fun g5 => ?_)
          · refine y_bi rfl rfl (by decide) ?_
            refine y_rI rfl (Or.inl rfl) ?_
            exact k1 (by omega) (by omega)
          · refine y_ld (x := iv y) rfl rfl (fun d => rfl) ?_
            refine y_ld (x := iv q) rfl rfl (fun d => rfl) ?_
            refine y_jne rfl rfl rfl (by omega) (fun g6 => ?_) (fun g6 => ?_)
            · refine y_ic rfl rfl ?_
              refine y_st (lv' := [(4, iv 1), (0, .ref 170), (1, iv x), (2, iv y), (3, iv q)]) rfl rfl (fun d => rfl) ?_
              refine y_ic rfl rfl ?_
              refine y_st (lv' := [(5, iv 0), (4, iv 1), (0, .ref 170), (1, iv x), (2, iv y), (3, iv q)]) rfl rfl (fun d => rfl) ?_
              refine y_lv (l' := [(0, .ref 170), (1, iv x), (2, iv y), (3, iv q), (4, iv 1), (5, iv ((0 : Nat) : Int))]) rfl ⟨rfl, rfl, rfl, rfl, rfl, rfl, trivial⟩ ?_
              exact y_mono (lq_whole (F := 200) hM hSO (by omega) (by omega) (by omega) (k2 (by omega) (by omega)) (k3 (by omega) (by omega)) 85 0 1 (by omega) (by omega) (Or.inl ⟨rfl, fun p hp => absurd hp (by omega)⟩)) (by decide)
            · refine y_bi rfl rfl (by decide) ?_
              refine y_rI rfl (Or.inl rfl) ?_
              exact k1 (by omega) (by omega)
      · refine y_ic rfl rfl ?_
        refine y_rI rfl (Or.inl rfl) ?_
        exact k0 (by omega)
set_option maxRecDepth 100000 in
set_option maxHeartbeats 4000000 in
theorem lq_fall (hM : MdS S) {cnt : Nat} (hSO : SO cnt (V 171)) {x : Int} (hx : 0 ≤ x ∧ x < V 171 1) {F : Nat} : ∀ (m : Nat) (k : Nat) (r : Int), 84 - k < m → (k ≤ 84) → (0 ≤ r ∧ r < 65536) → (∀ t : Nat, t < 16 → tuM (V 171) x.toNat k t (r / 2 ^ t % 2)) → (∀ r : Int, 0 ≤ r ∧ r < 65536 → (∀ t : Nat, t < 16 → tuB (V 171) x.toNat 16 t (r / 2 ^ t % 2)) → y_E X 2 152 F u w 111 [(0, .ref 170), (1, iv x), (2, iv r)] [] S (v_ur V 171 (v_cp (V 171) (V 171) (880 + 84 * x.toNat) (200 + 84 * x.toNat) 84)) K) → y_E X 2 152 (60 * m + F) u w 15 [(0, .ref 170), (1, iv x), (2, iv r), (3, iv (k : Int))] [] S (v_ur V 171 (v_cp (V 171) (V 171) (880 + 84 * x.toNat) (200 + 84 * x.toNat) k)) K := by
  intro m
  induction m with
  | zero => intros; omega
  | succ m ih =>
    intro k r hm hI hr hJ hx2
    refine y_mono (F' := (60 * m + F) + 60) ?_ (by omega)
    refine y_ld (x := iv (k : Int)) rfl rfl (fun d => rfl) ?_
    refine y_bi rfl rfl (by decide) ?_
    refine y_jge rfl rfl rfl (by omega) (fun g1 => ?_) (fun g1 => ?_)
    · obtain rfl : k = 84 := by omega
      refine y_lv (l' := [(0, .ref 170), (1, iv x), (2, iv r)]) rfl ⟨rfl, rfl, rfl, trivial⟩ ?_
      exact y_mono (hx2 r hr (fun t ht => tuM_B (by decide) ht (hJ t ht))) (by omega)
    · have hsz := hSO.1
      have hra := (hSO.2.2.1 x.toNat (by omega)).2.2.2.2.1 k (by omega)
      have hrb := (hSO.2.2.1 x.toNat (by omega)).2.2.2.2.2 k (by omega)
      have hra2 : -2147483648 ≤ V 171 (200 + 84 * x.toNat + k) ∧ V 171 (200 + 84 * x.toNat + k) < 2147483648 := hra
      have hrb2 : -2147483648 ≤ V 171 (880 + 84 * x.toNat + k) ∧ V 171 (880 + 84 * x.toNat + k) < 2147483648 := hrb
      refine y_ld (x := iv r) rfl rfl (fun d => rfl) ?_
      refine y_ld (x := iv (k : Int)) rfl rfl (fun d => rfl) ?_
      refine y_bi rfl rfl (by decide) ?_
      refine y_jge rfl rfl rfl (by omega) (fun g2 => ?_) (fun g2 => ?_)
      · refine y_ld (x := iv 65535) rfl rfl (fun d => rfl) ?_
        refine y_op (z := r) rfl rfl (fun d => rfl) (v_and16 hr) ?_
        refine y_st (lv' := [(2, iv r), (0, .ref 170), (1, iv x), (3, iv (k : Int))]) rfl rfl (fun d => rfl) ?_
        refine y_ld (x := .ref 170) rfl rfl (fun d => rfl) ?_
        refine y_gR (i := 1) rfl rfl rfl (md170 hM) rfl ?_
        refine y_si rfl rfl (by decide) ?_
        refine y_bi rfl rfl (by decide) ?_
        refine y_ld (x := iv x) rfl rfl (fun d => rfl) ?_
        refine y_mul (z := (84 * x)) rfl rfl rfl ?_
        refine y_add (z := (200 + (84 * x))) rfl rfl rfl ?_
        refine y_ld (x := iv (k : Int)) rfl rfl (fun d => rfl) ?_
        refine y_add (z := ((200 + (84 * x)) + (k : Int))) rfl rfl rfl ?_
        refine y_ld (x := .ref 170) rfl rfl (fun d => rfl) ?_
        refine y_gR (i := 1) rfl rfl rfl (md170 hM) rfl ?_
        refine y_si rfl rfl (by decide) ?_
        refine y_bi rfl rfl (by decide) ?_
        refine y_ld (x := iv x) rfl rfl (fun d => rfl) ?_
        refine y_mul (z := (84 * x)) rfl rfl rfl ?_
        refine y_add (z := (880 + (84 * x))) rfl rfl rfl ?_
        refine y_ld (x := iv (k : Int)) rfl rfl (fun d => rfl) ?_
        refine y_add (z := ((880 + (84 * x)) + (k : Int))) rfl rfl rfl ?_
        refine y_ild (x := (V 171 (880 + 84 * x.toNat + k))) (q := (880 + 84 * x.toNat + k)) rfl rfl (md171 hM) (by omega) (by decide) (by omega) (by rw [v_ur_eq]; unfold v_cp; rw [if_neg (by omega)]) ?_
        refine y_ist (q := (200 + 84 * x.toNat + k)) rfl rfl (md171 hM) (by omega) (by decide) (by omega) ?_
        refine y_inc (z := ((k + 1 : Nat) : Int)) (lv' := [(3, iv ((k + 1 : Nat) : Int)), (2, iv r), (0, .ref 170), (1, iv x)]) rfl rfl rfl (by omega) rfl ?_
        refine y_go rfl rfl ?_
        refine y_lv (l' := [(0, .ref 170), (1, iv x), (2, iv r), (3, iv ((k + 1 : Nat) : Int))]) rfl ⟨rfl, rfl, rfl, rfl, trivial⟩ ?_
        refine y_V (V' := v_ur V 171 (v_cp (V 171) (V 171) (880 + 84 * x.toNat) (200 + 84 * x.toNat) (k + 1))) (v_cp_up2 V 171 _ _ k) ?_
        refine y_mono (ih (k + 1) r (by omega) (by omega) hr (fun t ht => ?_) hx2) (by omega)
        have hj := hJ t ht
        refine ⟨fun hf => hj.1 (fun d hd hk => hf d hd (by omega)), fun hf => hj.2 (fun g => hf (fun d hd hk => ?_))⟩
        by_cases h : 4 * t + d < k
        · exact g d hd h
        · rw [show 4 * t + d = k by omega]; omega
      · refine y_ld (x := .ref 170) rfl rfl (fun d => rfl) ?_
        refine y_gR (i := 1) rfl rfl rfl (md170 hM) rfl ?_
        refine y_si rfl rfl (by decide) ?_
        refine y_bi rfl rfl (by decide) ?_
        refine y_ld (x := iv x) rfl rfl (fun d => rfl) ?_
        refine y_mul (z := (84 * x)) rfl rfl rfl ?_
        refine y_add (z := (880 + (84 * x))) rfl rfl rfl ?_
        refine y_ld (x := iv (k : Int)) rfl rfl (fun d => rfl) ?_
        refine y_add (z := ((880 + (84 * x)) + (k : Int))) rfl rfl rfl ?_
        refine y_ild (x := (V 171 (880 + 84 * x.toNat + k))) (q := (880 + 84 * x.toNat + k)) rfl rfl (md171 hM) (by omega) (by decide) (by omega) (by rw [v_ur_eq]; unfold v_cp; rw [if_neg (by omega)]) ?_
        refine y_ld (x := .ref 170) rfl rfl (fun d => rfl) ?_
        refine y_gR (i := 1) rfl rfl rfl (md170 hM) rfl ?_
        refine y_si rfl rfl (by decide) ?_
        refine y_bi rfl rfl (by decide) ?_
        refine y_ld (x := iv x) rfl rfl (fun d => rfl) ?_
        refine y_mul (z := (84 * x)) rfl rfl rfl ?_
        refine y_add (z := (200 + (84 * x))) rfl rfl rfl ?_
        refine y_ld (x := iv (k : Int)) rfl rfl (fun d => rfl) ?_
        refine y_add (z := ((200 + (84 * x)) + (k : Int))) rfl rfl rfl ?_
        refine y_ild (x := (V 171 (200 + 84 * x.toNat + k))) (q := (200 + 84 * x.toNat + k)) rfl rfl (md171 hM) (by omega) (by decide) (by omega) (by rw [v_ur_eq]; unfold v_cp; rw [if_neg (by omega)]) ?_
        refine y_jeq rfl rfl rfl (by omega) (fun g3 => ?_) (fun g3 => ?_)
        · refine y_ld (x := iv 65535) rfl rfl (fun d => rfl) ?_
          refine y_op (z := r) rfl rfl (fun d => rfl) (v_and16 hr) ?_
          refine y_st (lv' := [(2, iv r), (0, .ref 170), (1, iv x), (3, iv (k : Int))]) rfl rfl (fun d => rfl) ?_
          refine y_ld (x := .ref 170) rfl rfl (fun d => rfl) ?_
          refine y_gR (i := 1) rfl rfl rfl (md170 hM) rfl ?_
          refine y_si rfl rfl (by decide) ?_
          refine y_bi rfl rfl (by decide) ?_
          refine y_ld (x := iv x) rfl rfl (fun d => rfl) ?_
          refine y_mul (z := (84 * x)) rfl rfl rfl ?_
          refine y_add (z := (200 + (84 * x))) rfl rfl rfl ?_
          refine y_ld (x := iv (k : Int)) rfl rfl (fun d => rfl) ?_
          refine y_add (z := ((200 + (84 * x)) + (k : Int))) rfl rfl rfl ?_
          refine y_ld (x := .ref 170) rfl rfl (fun d => rfl) ?_
          refine y_gR (i := 1) rfl rfl rfl (md170 hM) rfl ?_
          refine y_si rfl rfl (by decide) ?_
          refine y_bi rfl rfl (by decide) ?_
          refine y_ld (x := iv x) rfl rfl (fun d => rfl) ?_
          refine y_mul (z := (84 * x)) rfl rfl rfl ?_
          refine y_add (z := (880 + (84 * x))) rfl rfl rfl ?_
          refine y_ld (x := iv (k : Int)) rfl rfl (fun d => rfl) ?_
          refine y_add (z := ((880 + (84 * x)) + (k : Int))) rfl rfl rfl ?_
          refine y_ild (x := (V 171 (880 + 84 * x.toNat + k))) (q := (880 + 84 * x.toNat + k)) rfl rfl (md171 hM) (by omega) (by decide) (by omega) (by rw [v_ur_eq]; unfold v_cp; rw [if_neg (by omega)]) ?_
          refine y_ist (q := (200 + 84 * x.toNat + k)) rfl rfl (md171 hM) (by omega) (by decide) (by omega) ?_
          refine y_inc (z := ((k + 1 : Nat) : Int)) (lv' := [(3, iv ((k + 1 : Nat) : Int)), (2, iv r), (0, .ref 170), (1, iv x)]) rfl rfl rfl (by omega) rfl ?_
          refine y_go rfl rfl ?_
          refine y_lv (l' := [(0, .ref 170), (1, iv x), (2, iv r), (3, iv ((k + 1 : Nat) : Int))]) rfl ⟨rfl, rfl, rfl, rfl, trivial⟩ ?_
          refine y_V (V' := v_ur V 171 (v_cp (V 171) (V 171) (880 + 84 * x.toNat) (200 + 84 * x.toNat) (k + 1))) (v_cp_up2 V 171 _ _ k) ?_
          refine y_mono (ih (k + 1) r (by omega) (by omega) hr (fun t ht => ?_) hx2) (by omega)
          have hj := hJ t ht
          refine ⟨fun hf => hj.1 (fun d hd hk => hf d hd (by omega)), fun hf => hj.2 (fun g => hf (fun d hd hk => ?_))⟩
          by_cases h : 4 * t + d < k
          · exact g d hd h
          · rw [show 4 * t + d = k by omega]; omega
        · refine y_ic rfl rfl ?_
          refine y_ld (x := iv (k : Int)) rfl rfl (fun d => rfl) ?_
          refine y_ic rfl rfl ?_
          refine y_op (z := ((k / 4 : Nat) : Int)) rfl rfl (fun d => rfl) ((v_div (by omega) (by decide)).trans (congrArg Int32.ofInt (by omega))) ?_
          refine y_op (z := (2 ^ (k / 4))) rfl rfl (fun d => rfl) (v_shl1 (k := ((k / 4 : Nat) : Int)) (by omega)) ?_
          refine y_ic rfl rfl ?_
          have hp2 := v_p2 (k / 4)
          have hp3 : (2 : Int) ^ (k / 4) ≤ 32768 := z_p2le (by omega)
          refine y_op (z := (4294967295 - 2 ^ (k / 4))) rfl rfl (fun d => rfl) (v_not (by omega)) ?_
          refine y_go rfl rfl ?_
          refine y_op (z := (v_x2 r (k / 4))) rfl rfl (fun d => rfl) (v_andn hr (by omega)) ?_
          refine y_st (lv' := [(2, iv (v_x2 r (k / 4))), (0, .ref 170), (1, iv x), (3, iv (k : Int))]) rfl rfl (fun d => rfl) ?_
          refine y_ld (x := .ref 170) rfl rfl (fun d => rfl) ?_
          refine y_gR (i := 1) rfl rfl rfl (md170 hM) rfl ?_
          refine y_si rfl rfl (by decide) ?_
          refine y_bi rfl rfl (by decide) ?_
          refine y_ld (x := iv x) rfl rfl (fun d => rfl) ?_
          refine y_mul (z := (84 * x)) rfl rfl rfl ?_
          refine y_add (z := (200 + (84 * x))) rfl rfl rfl ?_
          refine y_ld (x := iv (k : Int)) rfl rfl (fun d => rfl) ?_
          refine y_add (z := ((200 + (84 * x)) + (k : Int))) rfl rfl rfl ?_
          refine y_ld (x := .ref 170) rfl rfl (fun d => rfl) ?_
          refine y_gR (i := 1) rfl rfl rfl (md170 hM) rfl ?_
          refine y_si rfl rfl (by decide) ?_
          refine y_bi rfl rfl (by decide) ?_
          refine y_ld (x := iv x) rfl rfl (fun d => rfl) ?_
          refine y_mul (z := (84 * x)) rfl rfl rfl ?_
          refine y_add (z := (880 + (84 * x))) rfl rfl rfl ?_
          refine y_ld (x := iv (k : Int)) rfl rfl (fun d => rfl) ?_
          refine y_add (z := ((880 + (84 * x)) + (k : Int))) rfl rfl rfl ?_
          refine y_ild (x := (V 171 (880 + 84 * x.toNat + k))) (q := (880 + 84 * x.toNat + k)) rfl rfl (md171 hM) (by omega) (by decide) (by omega) (by rw [v_ur_eq]; unfold v_cp; rw [if_neg (by omega)]) ?_
          refine y_ist (q := (200 + 84 * x.toNat + k)) rfl rfl (md171 hM) (by omega) (by decide) (by omega) ?_
          refine y_inc (z := ((k + 1 : Nat) : Int)) (lv' := [(3, iv ((k + 1 : Nat) : Int)), (2, iv (v_x2 r (k / 4))), (0, .ref 170), (1, iv x)]) rfl rfl rfl (by omega) rfl ?_
          refine y_go rfl rfl ?_
          refine y_lv (l' := [(0, .ref 170), (1, iv x), (2, iv (v_x2 r (k / 4))), (3, iv ((k + 1 : Nat) : Int))]) rfl ⟨rfl, rfl, rfl, rfl, trivial⟩ ?_
          refine y_V (V' := v_ur V 171 (v_cp (V 171) (V 171) (880 + 84 * x.toNat) (200 + 84 * x.toNat) (k + 1))) (v_cp_up2 V 171 _ _ k) ?_
          refine y_mono (ih (k + 1) (v_x2 r (k / 4)) (by omega) (by omega) (v_x2_rg hr _) (fun t ht => ?_) hx2) (by omega)
          have hj := hJ t ht
          rw [v_x2_bit hr (by omega)]
          by_cases h : t = k / 4
          · rw [if_pos h]
            refine ⟨fun hf => ?_, fun _ => rfl⟩
            have h2 := hf (k % 4) (by omega) (by omega)
            rw [show 4 * t + k % 4 = k by omega] at h2
            omega
          · rw [if_neg h]
            exact ⟨fun hf => hj.1 (fun d hd hk => hf d hd (by omega)), fun hf => hj.2 (fun g => hf (fun d hd hk => g d hd (by omega)))⟩
set_option maxRecDepth 100000 in
set_option maxHeartbeats 4000000 in
theorem ms_fall (hM : MdS S) {cnt : Nat} (hSO : SO cnt (V 171)) {x : Int} (hx : (-2147483648 ≤ x ∧ x < 2147483648)) (k0 : ¬ (0 ≤ x ∧ x < V 171 1) → K u w (some (iv (-1))) S V) (k1 : 0 ≤ x ∧ x < V 171 1 → ∀ r : Int, 0 ≤ r ∧ r < 65536 → (∀ t : Nat, t < 16 → tuB (V 171) x.toNat 16 t (r / 2 ^ t % 2)) → K u w (some (iv r)) S (v_ur V 171 (v_cp (V 171) (V 171) (880 + 84 * x.toNat) (200 + 84 * x.toNat) 84))) : y_R X 3 152 u w [.ref 170, iv x] S V K := by
  have hsz := hSO.1
  have hB : 0 ≤ V 171 1 ∧ V 171 1 ≤ 8 := by omega
  refine y_ent (lv' := [(0, .ref 170), (1, iv x)]) (Nat.le_of_ble_eq_true rfl) rfl ?_
  refine y_ld (x := .ref 170) rfl rfl (fun d => rfl) ?_
  refine y_ld (x := iv x) rfl rfl (fun d => rfl) ?_
  refine y_cV (as := [.ref 170, iv x]) rfl rfl rfl rfl rfl (md170 hM) ⟨rfl, (Nat.le_of_ble_eq_true rfl), (Nat.le_of_ble_eq_true rfl)⟩ (by decide) (ct_isBox hM (by omega) ⟨rfl, by omega⟩ ?_)
  refine y_nv ?_
  refine y_bne rfl rfl rfl (fun g1 => ?_) (fun g1 => ?_)
  · refine y_ld (x := iv 65535) rfl rfl (fun d => rfl) ?_
    refine y_st (lv' := [(2, iv 65535), (0, .ref 170), (1, iv x)]) rfl rfl (fun d => rfl) ?_
    refine y_ic rfl rfl ?_
    refine y_st (lv' := [(3, iv 0), (2, iv 65535), (0, .ref 170), (1, iv x)]) rfl rfl (fun d => rfl) ?_
    refine y_lv (l' := [(0, .ref 170), (1, iv x), (2, iv 65535), (3, iv ((0 : Nat) : Int))]) rfl ⟨rfl, rfl, rfl, rfl, trivial⟩ ?_
    refine y_V (V' := v_ur V 171 (v_cp (V 171) (V 171) (880 + 84 * x.toNat) (200 + 84 * x.toNat) 0)) (v_cp_0 V 171 _ _).symm ?_
    refine y_mono (lq_fall (F := 200) hM hSO (x := x) (by omega) 85 0 65535 (by omega) (by omega) (by decide) (fun t ht => ⟨fun _ => z_65535 t ht, fun hf => absurd (fun d _ hk => absurd hk (by omega)) hf⟩) (fun r hr1 hr2 => ?_)) (by decide)
    refine y_ld (x := iv r) rfl rfl (fun d => rfl) ?_
    refine y_rI rfl (Or.inl rfl) ?_
    exact k1 (by omega) r hr1 hr2
  · refine y_ic rfl rfl ?_
    refine y_rI rfl (Or.inl rfl) ?_
    exact k0 (by omega)
end
end
