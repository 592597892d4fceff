/-! a packet is put at the end of a state's packets -/
theorem RN_cg {V : v_V} {σ σ' : Nat → Int} (h : RN V 1 σ) (e : ∀ j, j < 1686 → σ' j = σ j) : RN V 1 σ' := by
  obtain ⟨h1, h2, h3, h4⟩ := h
  refine ⟨by rw [e 0 (by decide), e 1 (by decide), e 2 (by decide), e 3 (by decide), e 4 (by decide), e 5 (by decide), e 6 (by decide)]; exact h1, fun i hi => by rw [e _ (by omega)]; exact h2 i hi, fun i hi => by rw [e _ (by omega)]; exact h3 i hi, fun b hb => ?_⟩
  obtain ⟨d1, d2, d3, d4, d5, d6, d7, d8⟩ := h4 b hb
  unfold BxN
  rw [e 1 (by omega), e (170 + b) (by omega), e (178 + b) (by omega), e (186 + b) (by omega), e (872 + b) (by omega)]
  exact ⟨d1, d2, d3, d4, d5, fun t ht => by rw [e _ (by omega)]; exact d6 t ht, fun i hi => by rw [e _ (by omega)]; exact d7 i hi, fun i hi => by rw [e _ (by omega)]; exact d8 i hi⟩
theorem PkA_add {S S' : m_H} {V V' : v_V} {vs : List Value} {N q n c : Nat} {σ σ' : Nat → Int} {t h y o : Int} (hA : PkA S V vs N (n : Int) σ q) (hn : n < N) (hS : SQ c S S') (hc : c < 193) (hV : ∀ k, 193 ≤ k → k < S.length → V' k = V k) (hp : PkS S' V' S.length t h y o) (hl : 193 ≤ S.length) (e : ∀ j, j < q + 4 * n → q ≤ j → σ' j = σ j) (e0 : σ' (q + 4 * n) = t) (e1 : σ' (q + 4 * n + 1) = h) (e2 : σ' (q + 4 * n + 2) = y) (e3 : σ' (q + 4 * n + 3) = o) : PkA S' V' (vs.set n (.ref S.length)) N ((n : Int) + 1) σ' q := by
  obtain ⟨a1, a2, a3⟩ := hA
  refine ⟨by rw [List.length_set]; exact a1, fun v hv => ?_, fun i hi => ?_⟩
  · rcases List.mem_or_eq_of_mem_set hv with h7 | h7
    · exact hS.2 _ _ (a2 v h7)
    · rw [h7]; exact Or.inr ⟨S.length, _, rfl, hp.1⟩
  · by_cases hin : i = n
    · subst hin
      refine ⟨S.length, ?_, hl, ?_⟩
      · rw [m_nth_set, if_pos rfl, m_nth_eq, List.getElem?_eq_getElem (by omega)]
        rfl
      · rw [e0, e1, e2, e3]
        exact hp
    · obtain ⟨pk, b1, b2, b3⟩ := a3 i (by omega)
      refine ⟨pk, by rw [m_nth_set, if_neg hin]; exact b1, b2, ?_⟩
      rw [e _ (by omega) (by omega), e _ (by omega) (by omega), e _ (by omega) (by omega), e _ (by omega) (by omega)]
      have b4 := PkS_r b3 (hV pk b2 (ce_lt b3.1))
      exact ⟨hS.1 _ _ _ (by omega) b4.1, b4.2⟩
/-- the row of numbers with the packet -/
def pkR (σ : Nat → Int) (q si n : Nat) (t h y o : Int) : Nat → Int := v_uf (v_uf (v_uf (v_uf (v_uf σ (q + 4 * n) t) (q + 4 * n + 1) h) (q + 4 * n + 2) y) (q + 4 * n + 3) o) si ((n : Int) + 1)
theorem pkR_ne {σ : Nat → Int} {q si n : Nat} {t h y o : Int} {j : Nat} (h1 : j ≠ si) (h2 : j < q + 4 * n ∨ q + 4 * n + 4 ≤ j) : pkR σ q si n t h y o j = σ j := by
  unfold pkR
  rw [v_uf_ne h1, v_uf_ne (by omega), v_uf_ne (by omega), v_uf_ne (by omega), v_uf_ne (by omega)]
theorem pkR_4 {σ : Nat → Int} {q si n : Nat} {t h y o : Int} (hq : si < q) : pkR σ q si n t h y o (q + 4 * n) = t ∧ pkR σ q si n t h y o (q + 4 * n + 1) = h ∧ pkR σ q si n t h y o (q + 4 * n + 2) = y ∧ pkR σ q si n t h y o (q + 4 * n + 3) = o := by
  unfold pkR
  refine ⟨?_, ?_, ?_, ?_⟩
  · rw [v_uf_ne (by omega), v_uf_ne (by omega), v_uf_ne (by omega), v_uf_ne (by omega), v_uf_eq]
  · rw [v_uf_ne (by omega), v_uf_ne (by omega), v_uf_ne (by omega), v_uf_eq]
  · rw [v_uf_ne (by omega), v_uf_ne (by omega), v_uf_eq]
  · rw [v_uf_ne (by omega), v_uf_eq]
theorem pkR_si {σ : Nat → Int} {q si n : Nat} {t h y o : Int} : pkR σ q si n t h y o si = (n : Int) + 1 := by
  unfold pkR
  rw [v_uf_eq]
theorem SO_pk {cnt : Nat} {σ : Nat → Int} {q si n : Nat} {t h y o : Int} (hs : SO cnt σ) (hc : (q = 1690 ∧ si = 3 ∧ n < 20 ∧ σ 3 = (n : Int)) ∨ (q = 1770 ∧ si = 5 ∧ n < 5 ∧ σ 5 = (n : Int))) (hp : pkO t h y o) : SO cnt (pkR σ q si n t h y o) := by
  have e : ∀ j, j ≠ 3 → j ≠ 5 → j < 1690 → pkR σ q si n t h y o j = σ j := fun j a b c => pkR_ne (by omega) (by omega)
  have h4 := pkR_4 (σ := σ) (q := q) (si := si) (n := n) (t := t) (h := h) (y := y) (o := o) (by omega)
  have hsi := pkR_si (σ := σ) (q := q) (si := si) (n := n) (t := t) (h := h) (y := y) (o := o)
  obtain ⟨a1, a2, a3, a4, a5, a6, a7⟩ := hs
  refine ⟨?_, fun i hi => by rw [e _ (by omega) (by omega) (by omega)]; exact a2 i hi, fun b hb => ?_, fun b hb t ht => by rw [e _ (by omega) (by omega) (by omega), e 1 (by omega) (by omega) (by omega)]; exact a4 b hb t ht, fun i hi => by rw [e _ (by omega) (by omega) (by omega), e 1 (by omega) (by omega) (by omega), e 2 (by omega) (by omega) (by omega)]; exact a5 i hi, fun i hi => ?_, fun i hi => ?_⟩
  · rw [e 0 (by omega) (by omega) (by omega), e 1 (by omega) (by omega) (by omega), e 2 (by omega) (by omega) (by omega), e 4 (by omega) (by omega) (by omega), e 6 (by omega) (by omega) (by omega)]
    rcases hc with ⟨rfl, rfl, c1, c2⟩ | ⟨rfl, rfl, c1, c2⟩
    · rw [hsi, pkR_ne (j := 5) (by decide) (by omega)]
      omega
    · rw [hsi, pkR_ne (j := 3) (by decide) (by omega)]
      omega
  · obtain ⟨c1, c2, c3, c4, c5, c6⟩ := a3 b hb
    rw [e (170 + b) (by omega) (by omega) (by omega), e (178 + b) (by omega) (by omega) (by omega), e (186 + b) (by omega) (by omega) (by omega), e (872 + b) (by omega) (by omega) (by omega), e 1 (by omega) (by omega) (by omega), e 0 (by omega) (by omega) (by omega)]
    refine ⟨c1, c2, c3, c4, fun p hp => ?_, fun p hp => ?_⟩
    · show -2147483648 ≤ pkR σ q si n t h y o (200 + 84 * b + p) ∧ pkR σ q si n t h y o (200 + 84 * b + p) < 2147483648
      rw [e _ (by omega) (by omega) (by omega)]
      exact c5 p hp
    · show -2147483648 ≤ pkR σ q si n t h y o (880 + 84 * b + p) ∧ pkR σ q si n t h y o (880 + 84 * b + p) < 2147483648
      rw [e _ (by omega) (by omega) (by omega)]
      exact c6 p hp
  · rcases hc with ⟨rfl, rfl, c1, c2⟩ | ⟨rfl, rfl, c1, c2⟩
    · rw [hsi] at hi
      by_cases hin : i = n
      · rw [hin, h4.1, h4.2.1, h4.2.2.1, h4.2.2.2]
        exact hp
      · rw [pkR_ne (by omega) (by omega), pkR_ne (by omega) (by omega), pkR_ne (by omega) (by omega), pkR_ne (by omega) (by omega)]
        exact a6 i (by omega)
    · rw [pkR_ne (j := 3) (by decide) (by omega)] at hi
      rw [pkR_ne (by omega) (by omega), pkR_ne (by omega) (by omega), pkR_ne (by omega) (by omega), pkR_ne (by omega) (by omega)]
      exact a6 i hi
  · rcases hc with ⟨rfl, rfl, c1, c2⟩ | ⟨rfl, rfl, c1, c2⟩
    · rw [pkR_ne (j := 5) (by decide) (by omega)] at hi
      rw [pkR_ne (by omega) (by omega), pkR_ne (by omega) (by omega), pkR_ne (by omega) (by omega), pkR_ne (by omega) (by omega)]
      exact a7 i hi
    · rw [hsi] at hi
      by_cases hin : i = n
      · rw [hin, h4.1, h4.2.1, h4.2.2.1, h4.2.2.2]
        exact hp
      · rw [pkR_ne (by omega) (by omega), pkR_ne (by omega) (by omega), pkR_ne (by omega) (by omega), pkR_ne (by omega) (by omega)]
        exact a7 i (by omega)
