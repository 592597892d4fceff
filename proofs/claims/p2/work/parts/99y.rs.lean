/-! WHAT HOLDS BETWEEN CALLS: σ is the reference's row of numbers; tl the TEXTS as they were read -/
def TO (l : List p_Li) : Prop := lsO l ∧ (∀ x ∈ l, lnO x) ∧ l.length ≤ 8 ∧ (encP 0 l).length ≤ 200 ∧ (encPc l).length ≤ 160
def SO (cnt : Nat) (σ : Nat → Int) : Prop :=
  ((0 ≤ σ 0 ∧ σ 0 ≤ 8) ∧ (0 ≤ σ 1 ∧ σ 1 ≤ 8) ∧ (0 ≤ σ 2 ∧ σ 2 ≤ 6) ∧ (0 ≤ σ 3 ∧ σ 3 ≤ 20) ∧ (0 ≤ σ 4 ∧ σ 4 ≤ 65535) ∧ (0 ≤ σ 5 ∧ σ 5 ≤ 5) ∧ (0 ≤ σ 6 ∧ σ 6 ≤ 160)) ∧
  (∀ i : Nat, i < 160 → 0 ≤ σ (10 + i) ∧ σ (10 + i) ≤ 255) ∧
  (∀ b : Nat, b < 8 → (0 ≤ σ (170 + b) ∧ σ (170 + b) ≤ 6) ∧ (0 ≤ σ (178 + b) ∧ σ (178 + b) ≤ 8 ∧ ((b : Int) < σ 1 → σ (178 + b) < σ 0)) ∧ (-5 ≤ σ (186 + b) ∧ σ (186 + b) ≤ 8) ∧ (0 ≤ σ (872 + b) ∧ σ (872 + b) ≤ cnt) ∧ muO (zm σ (200 + 84 * b)) ∧ muO (zm σ (880 + 84 * b))) ∧
  (∀ b : Nat, b < 8 → ∀ t : Nat, t < 16 → 0 ≤ σ (1552 + 16 * b + t) ∧ σ (1552 + 16 * b + t) ≤ 7 ∧ ((b : Int) < σ 1 → σ (1552 + 16 * b + t) < σ 1)) ∧
  (∀ i : Nat, i < 6 → 0 ≤ σ (1680 + i) ∧ σ (1680 + i) ≤ 7 ∧ ((i : Int) < σ 2 → σ (1680 + i) < σ 1)) ∧
  (∀ i : Nat, (i : Int) < σ 3 → pkO (σ (1690 + 4 * i)) (σ (1690 + 4 * i + 1)) (σ (1690 + 4 * i + 2)) (σ (1690 + 4 * i + 3))) ∧
  (∀ i : Nat, (i : Int) < σ 5 → pkO (σ (1770 + 4 * i)) (σ (1770 + 4 * i + 1)) (σ (1770 + 4 * i + 2)) (σ (1770 + 4 * i + 3)))
/-- a BOX of the class at a -/
def BxN (V : v_V) (a b : Nat) (σ : Nat → Int) : Prop := ((b : Int) < σ 1 → V a 0 = (b : Int)) ∧ V a 1 = σ (170 + b) ∧ V a 2 = σ (178 + b) ∧ V a 3 = σ (186 + b) ∧ V a 4 = σ (872 + b) ∧ (∀ t : Nat, t < 16 → V (a + 1) t = σ (1552 + 16 * b + t)) ∧ (∀ p : Nat, p < 84 → V (a + 3) p = σ (200 + 84 * b + p)) ∧ (∀ p : Nat, p < 84 → V (a + 5) p = σ (880 + 84 * b + p))
/-- a state of the class at B: its numbers -/
def RN (V : v_V) (B : Nat) (σ : Nat → Int) : Prop :=
  (V B 1 = σ 6 ∧ V B 3 = σ 0 ∧ V B 5 = σ 1 ∧ V B 7 = σ 2 ∧ V B 9 = σ 3 ∧ V B 10 = σ 4 ∧ V B 12 = σ 5) ∧
  (∀ i : Nat, i < 160 → V (B + 1) i = σ (10 + i)) ∧ (∀ i : Nat, i < 6 → V (B + 4) i = σ (1680 + i)) ∧ (∀ b : Nat, b < 8 → BxN V (B + 9 + 6 * b) b σ)
def RT (S : m_H) (V : v_V) (B : Nat) (σ : Nat → Int) (tl : Nat → List p_Li) : Prop := ∃ ta, ce S (B + 2) 22 ta ∧ ta.length = 8 ∧ (∀ v ∈ ta, v_asg S 22 v) ∧ ∀ i : Nat, (i : Int) < σ 0 → ∃ t : Nat, m_nth ta i = some (.ref t) ∧ 193 ≤ t ∧ TxS S t ∧ CT V t (tl i)
def PkA (S : m_H) (V : v_V) (vs : List Value) (N : Nat) (lim : Int) (σ : Nat → Int) (q : Nat) : Prop := vs.length = N ∧ (∀ v ∈ vs, v_asg S 24 v) ∧ ∀ i : Nat, (i : Int) < lim → ∃ pk : Nat, m_nth vs i = some (.ref pk) ∧ 193 ≤ pk ∧ PkS S V pk (σ (q + 4 * i)) (σ (q + 4 * i + 1)) (σ (q + 4 * i + 2)) (σ (q + 4 * i + 3))
def RW (S : m_H) (V : v_V) (B : Nat) (σ : Nat → Int) : Prop := ∃ wa, ce S (B + 5) 24 wa ∧ PkA S V wa 20 (σ 3) σ 1690
def RA (S : m_H) (V : v_V) (B : Nat) (σ : Nat → Int) : Prop := ∃ la, ce S (B + 6) 24 la ∧ PkA S V la 5 (σ 5) σ 1770
def RS (S : m_H) (V : v_V) (B : Nat) (σ : Nat → Int) (tl : Nat → List p_Li) : Prop := RN V B σ ∧ RT S V B σ tl ∧ RW S V B σ ∧ RA S V B σ
/-! a packet worked by a BOX, SENT, LET GO: on the row of numbers -/
def sgW (tl : Nat → List p_Li) (σ : Nat → Int) (b : Nat) (t h k n : Int) : Int × (Nat → Int) :=
  ((eW t h k n (tl (σ (178 + b)).toNat) (zm σ (200 + 84 * b))).1, v_uf (zi σ (200 + 84 * b) (eW t h k n (tl (σ (178 + b)).toNat) (zm σ (200 + 84 * b))).2) (186 + b) (eL (zm σ (200 + 84 * b)) t h k n 0 (tl (σ (178 + b)).toNat)))
def wBox (σ : Nat → Int) (q : Nat) (t : Int) : Nat := (σ (1552 + 16 * (σ (1680 + q)).toNat + t.toNat)).toNat
def sgS (tl : Nat → List p_Li) (t h k n : Int) : Nat → Nat → (Nat → Int) → Int × (Nat → Int)
  | 0, q, σ => (10 * (q : Int) + 1, σ)
  | m + 1, q, σ => if (sgW tl σ (wBox σ q t) t h k n).1 = 1 then sgS tl t h k n m (q + 1) (sgW tl σ (wBox σ q t) t h k n).2
    else (10 * (q : Int) + (sgW tl σ (wBox σ q t) t h k n).1, (sgW tl σ (wBox σ q t) t h k n).2)
/-- the packets that wait, from the i-th on -/
def rlS (tl : Nat → List p_Li) : Nat → Nat → (Nat → Int) → Nat → Int
  | 0, _, σ => σ
  | m + 1, i, σ => rlS tl m (i + 1) (sgS tl (σ (1690 + 4 * i)) (σ (1690 + 4 * i + 1)) (σ (1690 + 4 * i + 2)) (σ (1690 + 4 * i + 3)) (σ 2).toNat 0 σ).2
theorem sgW_fr {tl : Nat → List p_Li} {σ : Nat → Int} {b : Nat} {t h k n : Int} {j : Nat} (h1 : j < 200 + 84 * b ∨ 284 + 84 * b ≤ j) (h2 : j ≠ 186 + b) : (sgW tl σ b t h k n).2 j = σ j := by
  unfold sgW
  simp only
  rw [v_uf_ne h2, zi_out (by omega)]
theorem sgW_lt {tl : Nat → List p_Li} {σ : Nat → Int} {b : Nat} {t h k n : Int} {j : Nat} (h1 : j < 186 ∨ (194 ≤ j ∧ j < 200) ∨ 872 ≤ j) (hb : b < 8) : (sgW tl σ b t h k n).2 j = σ j := sgW_fr (by omega) (by omega)
theorem sgW_SO {cnt : Nat} {tl : Nat → List p_Li} {σ : Nat → Int} {b : Nat} {t h k n : Int} (hs : SO cnt σ) (hb : b < 8) (hl : (tl (σ (178 + b)).toNat).length ≤ 8) : SO cnt (sgW tl σ b t h k n).2 ∧ 0 ≤ (sgW tl σ b t h k n).1 ∧ (sgW tl σ b t h k n).1 ≤ 2 := by
  obtain ⟨a1, a2, a3, a4, a5, a6, a7⟩ := hs
  have e : ∀ j, j < 186 ∨ (194 ≤ j ∧ j < 200) ∨ 872 ≤ j → (sgW tl σ b t h k n).2 j = σ j := fun j hj => sgW_lt hj hb
  have hw := eW_rg (t := t) (h := h) (k := k) (n := n) (tl (σ (178 + b)).toNat) _ (a3 b hb).2.2.2.2.1
  refine ⟨⟨?_, ?_, ?_, ?_, ?_, ?_, ?_⟩, hw.2⟩
  · rw [e 0 (by omega), e 1 (by omega), e 2 (by omega), e 3 (by omega), e 4 (by omega), e 5 (by omega), e 6 (by omega)]
    exact a1
  · intro i hi
    rw [e _ (by omega)]
    exact a2 i hi
  · intro c hc
    obtain ⟨c1, c2, c3, c4, c5, c6⟩ := a3 c hc
    refine ⟨by rw [e _ (by omega)]; exact c1, by rw [e _ (by omega), e 1 (by omega), e 0 (by omega)]; exact c2, ?_, by rw [e _ (by omega)]; exact c4, ?_, ?_⟩
    · by_cases hcb : c = b
      · subst hcb
        have e3 : (sgW tl σ c t h k n).2 (186 + c) = eL (zm σ (200 + 84 * c)) t h k n 0 (tl (σ (178 + c)).toNat) := v_uf_eq _ _ _
        rw [e3]
        have := eL_rg (zm σ (200 + 84 * c)) t h k n (tl (σ (178 + c)).toNat) 0
        omega
      · rw [sgW_fr (by omega) (by omega)]
        exact c3
    · intro p hp
      show -2147483648 ≤ (sgW tl σ b t h k n).2 (200 + 84 * c + p) ∧ (sgW tl σ b t h k n).2 (200 + 84 * c + p) < 2147483648
      by_cases hcb : c = b
      · subst hcb
        have e3 : (sgW tl σ c t h k n).2 (200 + 84 * c + p) = (eW t h k n (tl (σ (178 + c)).toNat) (zm σ (200 + 84 * c))).2 p := (v_uf_ne (by omega)).trans (zm_zi hp)
        rw [e3]
        exact hw.1 p hp
      · rw [sgW_fr (by omega) (by omega)]
        exact c5 p hp
    · intro p hp
      show -2147483648 ≤ (sgW tl σ b t h k n).2 (880 + 84 * c + p) ∧ (sgW tl σ b t h k n).2 (880 + 84 * c + p) < 2147483648
      rw [e _ (by omega)]
      exact c6 p hp
  · intro c hc t ht
    rw [e _ (by omega), e 1 (by omega)]
    exact a4 c hc t ht
  · intro i hi
    rw [e _ (by omega), e 1 (by omega), e 2 (by omega)]
    exact a5 i hi
  · intro i hi
    rw [e 3 (by omega)] at hi
    rw [e _ (by omega), e _ (by omega), e _ (by omega), e _ (by omega)]
    exact a6 i hi
  · intro i hi
    rw [e 5 (by omega)] at hi
    rw [e _ (by omega), e _ (by omega), e _ (by omega), e _ (by omega)]
    exact a7 i hi
theorem wBox_lt {cnt : Nat} {σ : Nat → Int} {q : Nat} {t : Int} (hs : SO cnt σ) (hq : (q : Int) < σ 2) (ht : 0 ≤ t ∧ t < 16) : σ (1680 + q) = ((σ (1680 + q)).toNat : Int) ∧ σ (1680 + q) < σ 1 ∧ wBox σ q t < 8 ∧ ((wBox σ q t : Nat) : Int) < σ 1 ∧ σ (1552 + 16 * (σ (1680 + q)).toNat + t.toNat) = ((wBox σ q t : Nat) : Int) := by
  obtain ⟨a1, a2, a3, a4, a5, a6, a7⟩ := hs
  have h5 := a5 q (by omega)
  have h4 := a4 (σ (1680 + q)).toNat (by omega) t.toNat (by omega)
  have h6 := h5.2.2 hq
  have h7 := h4.2.2 (by omega)
  unfold wBox
  refine ⟨by omega, h6, by omega, by omega, by omega⟩
/-- all that is sent keeps what is asked of the numbers, and the numbers that are not of the MEMORIES and LATEST -/
theorem sgS_SO {cnt : Nat} {tl : Nat → List p_Li} {t h k n : Int} (ht : 0 ≤ t ∧ t < 16) : ∀ (m q : Nat) (σ : Nat → Int), SO cnt σ → (∀ i : Nat, (i : Int) < σ 0 → TO (tl i)) → ((q + m : Nat) : Int) ≤ σ 2 → SO cnt (sgS tl t h k n m q σ).2 ∧ (∀ j, j < 186 ∨ (194 ≤ j ∧ j < 200) ∨ 872 ≤ j → (sgS tl t h k n m q σ).2 j = σ j) ∧ 0 ≤ (sgS tl t h k n m q σ).1 ∧ (sgS tl t h k n m q σ).1 ≤ 10 * (q + m) + 2
  | 0, q, σ, hs, hT, hq => ⟨hs, fun _ _ => rfl, by show 0 ≤ 10 * (q : Int) + 1; omega, by show 10 * (q : Int) + 1 ≤ _; omega⟩
  | m + 1, q, σ, hs, hT, hq => by
    obtain ⟨w1, w2, w3, w4, w5⟩ := wBox_lt hs (q := q) (by omega) ht
    have h3 := (hs.2.2.1 _ w3).2.1
    have hl := hT (σ (178 + wBox σ q t)).toNat (by have := h3.2.2 w4; omega)
    obtain ⟨k1, k2, k3⟩ := sgW_SO (t := t) (h := h) (k := k) (n := n) hs w3 hl.2.2.1
    unfold sgS
    split
    · have e2 := sgW_lt (tl := tl) (σ := σ) (t := t) (h := h) (k := k) (n := n) (j := 2) (by omega) w3
      have e0 := sgW_lt (tl := tl) (σ := σ) (t := t) (h := h) (k := k) (n := n) (j := 0) (by omega) w3
      have ih := sgS_SO (cnt := cnt) (tl := tl) (h := h) (k := k) (n := n) ht m (q + 1) _ k1 (by rw [e0]; exact hT) (by rw [e2]; omega)
      refine ⟨ih.1, fun j hj => (ih.2.1 j hj).trans (sgW_lt hj w3), ih.2.2.1, by have := ih.2.2.2; omega⟩
    · exact ⟨k1, fun j hj => sgW_lt hj w3, by show 0 ≤ 10 * (q : Int) + _; omega, by show 10 * (q : Int) + _ ≤ _; omega⟩
