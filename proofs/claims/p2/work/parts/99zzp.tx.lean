/-! text: what it leaves -/
theorem RS_tl {S : m_H} {V : v_V} {B : Nat} {σ : Nat → Int} {tl tl' : Nat → List p_Li} (h : RS S V B σ tl) (e : ∀ i : Nat, (i : Int) < σ 0 → tl' i = tl i) : RS S V B σ tl' := by
  obtain ⟨h1, ⟨ta, t1, t2, t3, t4⟩, h3, h4⟩ := h
  refine ⟨h1, ⟨ta, t1, t2, t3, fun i hi => ?_⟩, h3, h4⟩
  obtain ⟨t, b1, b2, b3, b4⟩ := t4 i hi
  exact ⟨t, b1, b2, b3, by rw [e i hi]; exact b4⟩
theorem SO_t {cnt : Nat} {σ σ' : Nat → Int} (h : SO cnt σ) (hn : O7 σ') (e : ∀ j, 1 ≤ j → j ≠ 6 → σ' j = σ j) (h0 : σ 0 ≤ σ' 0) : SO cnt σ' := by
  obtain ⟨a1, a2, a3, a4, a5, a6, a7⟩ := h
  refine ⟨hn, fun i hi => by rw [e _ (by omega) (by omega)]; exact a2 i hi, fun b hb => ?_, fun b hb t ht => by rw [e _ (by omega) (by omega), e 1 (by omega) (by omega)]; exact a4 b hb t ht, fun i hi => by rw [e _ (by omega) (by omega), e 1 (by omega) (by omega), e 2 (by omega) (by omega)]; exact a5 i hi, fun i hi => ?_, fun i hi => ?_⟩
  · obtain ⟨c1, c2, c3, c4, c5, c6⟩ := a3 b hb
    rw [e (170 + b) (by omega) (by omega), e (178 + b) (by omega) (by omega), e (186 + b) (by omega) (by omega), e (872 + b) (by omega) (by omega), e 1 (by omega) (by omega)]
    refine ⟨c1, ⟨c2.1, c2.2.1, fun q => by have := c2.2.2 q; omega⟩, c3, c4, fun p hp => ?_, fun p hp => ?_⟩
    · show -2147483648 ≤ σ' (200 + 84 * b + p) ∧ σ' (200 + 84 * b + p) < 2147483648
      rw [e _ (by omega) (by omega)]
      exact c5 p hp
    · show -2147483648 ≤ σ' (880 + 84 * b + p) ∧ σ' (880 + 84 * b + p) < 2147483648
      rw [e _ (by omega) (by omega)]
      exact c6 p hp
  · rw [e 3 (by omega) (by omega)] at hi
    rw [e _ (by omega) (by omega), e _ (by omega) (by omega), e _ (by omega) (by omega), e _ (by omega) (by omega)]
    exact a6 i hi
  · rw [e 5 (by omega) (by omega)] at hi
    rw [e _ (by omega) (by omega), e _ (by omega) (by omega), e _ (by omega) (by omega), e _ (by omega) (by omega)]
    exact a7 i hi
theorem MT_TX {V V' : v_V} {a i : Nat} {l : List p_Li} (h : MT V i l) (hT : TX a V V') (hi : i ≠ a) (hl : TO l) : MT V' i l := by
  obtain ⟨t1, t2, t3, t4, t5, t6⟩ := hT
  obtain ⟨m1, m2, m3, m4, m5⟩ := h
  have h8 := hl.2.2.1
  have h200 := hl.2.2.2.1
  refine ⟨by rw [t4 i hi]; exact m1, fun j x hj => ?_, by rw [t5 i hi]; exact m3, fun j x hj => ?_, fun c hc => ?_⟩
  · have := m_nth_lt hj
    rw [t3 _ (by omega)]
    exact m2 j x hj
  · have := m_nth_lt hj
    rw [(t6 _ (by omega)).1]
    exact m4 j x hj
  · rw [(t6 _ (by omega)).2]
    exact m5 c hc
theorem NT_new {S : m_H} {V : v_V} {B : Nat} {σ : Nat → Int} {tl : Nat → List p_Li} (h : RT S V B σ tl) {t : Nat} (ht : S.length ≤ t) : NT S (B + 2) (σ 0) t := by
  obtain ⟨ta, t1, t2, t3, t4⟩ := h
  intro ta2 hc i hi
  have e : ta2 = ta := by
    have e := hc.2.symm.trans t1.2
    simp only [Option.some.injEq, Prod.mk.injEq] at e
    exact e.2
  obtain ⟨t', b1, b2, b3, b4⟩ := t4 i hi
  have := ce_lt b3.1
  rw [e, b1]
  intro q
  simp only [Option.some.injEq, Value.ref.injEq] at q
  have q2 : (t' : Nat) = t := q
  omega
/-- FED is empty again: both states when a TEXT was read -/
theorem RC_rd {S S' : m_H} {V V' : v_V} {σ τ : Nat → Int} {tl : Nat → List p_Li} {tp tv : Value} {t : Nat} (h : RC S V σ τ tl) (hs : σ 3 ≤ 20 ∧ σ 5 ≤ 5) (hl : 193 ≤ S.length) (r1 : ce S 115 3 [tp, .int 0, .int 0, tv]) (r2 : tv = .null ∨ ∃ t, tv = .ref t ∧ 193 ≤ t ∧ TxS S t ∧ NT S 3 (σ 0) t ∧ NT S 60 (τ 0) t) (q4 : 193 ≤ t ∧ (tv = .ref t ∨ t = S.length)) (q5 : ∀ k, k ≠ 115 → k < S.length → (k < t ∨ t + 6 < k) → V' k = v_up V 1 1 0 k) (q9 : ∀ q, q < S.length → q ≠ 115 → m_nth S' q = m_nth S q) :
    RS S' V' 1 (v_uf σ 6 0) tl ∧ RS S' V' 58 τ tl ∧ NT S' 3 (σ 0) t ∧ NT S' 60 (τ 0) t ∧ ClF S' ∧ SV 115 S S' ∧ (∃ lf, ce S' 116 4 (S116l lf)) ∧ XsA S' ∧ ∀ k, k ≠ 1 → k < 193 → k ≠ 115 → V' k = V k := by
  obtain ⟨a1, a2, a3, -, ⟨⟨lf, s1⟩, ⟨xs, x1, x2, x3⟩, s3⟩, -, -, -⟩ := h
  have hS := SV_rd hl q9
  have hNT : (TxS S t ∧ NT S 3 (σ 0) t ∧ NT S 60 (τ 0) t) ∨ (S.length ≤ t ∧ NT S 3 (σ 0) t ∧ NT S 60 (τ 0) t) := by
    rcases q4.2 with e | e
    · rcases r2 with r2 | ⟨t', b1, b2, b3, b4, b5⟩
      · rw [r2] at e; cases e
      · have : t' = t := by
          have := b1.symm.trans e
          simp only [Value.ref.injEq] at this
          exact this
        subst this
        exact Or.inl ⟨b3, b4, b5⟩
    · exact Or.inr ⟨by omega, NT_new a2.2.1 (by omega), NT_new a3.2.1 (by omega)⟩
  have hn := a2.1
  have hRN : RN (v_up V 1 1 0) 1 (v_uf σ 6 0) := RN_g hn ⟨rfl, hn.1.2.1, hn.1.2.2.1, hn.1.2.2.2.1, hn.1.2.2.2.2.1, hn.1.2.2.2.2.2.1, hn.1.2.2.2.2.2.2⟩ (fun i hi => by rw [v_up_ne (by decide), v_uf_ne (by omega)]; exact hn.2.1 i hi) (fun i hi => by rw [v_up_ne (by decide), v_uf_ne (by omega)]; exact hn.2.2.1 i hi) (fun k a b => v_up_ne (by omega)) (fun j a b => v_uf_ne (by omega)) rfl
  have hR1 := RS_n a2 hRN (fun k hk => v_up_ne (by omega)) rfl rfl hs.1 rfl hs.2 (fun j hj => v_uf_ne (by omega))
  have f : ∀ k, k ≠ 1 → k < S.length → k ≠ 115 → (k < t ∨ t + 6 < k) → V' k = V k := fun k a b c d => (q5 k c b d).trans (v_up_ne a)
  have hasg := asg_rd hS r1
  refine ⟨RS_rd (t := t) hR1 (Or.inl rfl) hS r1 (fun k a b => q5 k (by omega) (by omega) (by omega)) (fun k a b c => q5 k (by omega) b c) ?_, RS_rd (t := t) a3 (Or.inr rfl) hS r1 (fun k a b => f k (by omega) (by omega) (by omega) (by omega)) (fun k a b c => f k (by omega) b (by omega) c) ?_, ?_, ?_, ClF_v a1 hS (by decide), hS, ⟨lf, SV_ce hS (by decide) s1⟩, ⟨xs, SV_ce hS (by decide) x1, x2, fun v hv => hasg _ _ (x3 v hv)⟩, fun k a b c => f k a (by omega) c (by omega)⟩
  · rcases hNT with hq | hq
    · exact Or.inl ⟨hq.1, hq.2.1⟩
    · exact Or.inr hq.1
  · rcases hNT with hq | hq
    · exact Or.inl ⟨hq.1, hq.2.2⟩
    · exact Or.inr hq.1
  · intro ta hc
    have h3 : NT S 3 (σ 0) t := by
      rcases hNT with hq | hq
      · exact hq.2.1
      · exact hq.2.1
    exact h3 ta (SV_cf hS (by decide) (by omega) hc)
  · intro ta hc
    have h3 : NT S 60 (τ 0) t := by
      rcases hNT with hq | hq
      · exact hq.2.2
      · exact hq.2.2
    exact h3 ta (SV_cf hS (by decide) (by omega) hc)
