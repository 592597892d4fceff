/-! a state, when things were made; a packet made -/
theorem ce_lt {S : m_H} {k t : Nat} {vs : List Value} (h : ce S k t vs) : k < S.length := m_nth_lt h.2
theorem CT_lo {S : m_H} {V V' : v_V} {t : Nat} {l : List p_Li} (hV : ∀ k, k < S.length → V' k = V k) (hx : TxS S t) (h : CT V t l) : CT V' t l := by
  have h6 := ce_lt hx.2.2.2.2.2.2
  exact CT_r h (fun i hi => hV _ (by omega))
theorem RS_ap {S S' : m_H} {V V' : v_V} {B q : Nat} {σ : Nat → Int} {tl : Nat → List p_Li} (h : RS S V B σ tl) (hB : B = 1 ∨ B = 58) (hS : SQ q S S') (hq : q < 193 ∧ q ≠ B + 2 ∧ q ≠ B + 5 ∧ q ≠ B + 6) (hV : ∀ k, k < S.length → V' k = V k) (hl : 193 ≤ S.length) : RS S' V' B σ tl :=
  ⟨RN_fr h.1 (fun k _ _ => hV k (by omega)), RT_fr h.2.1 hS ⟨hq.1, hq.2.1⟩ (fun i t _ _ hx hct => CT_lo hV hx hct) (Int.le_refl _), RW_fr h.2.2.1 hS ⟨hq.1, hq.2.2.1⟩ (fun k _ _ _ _ _ hp => hV k (ce_lt hp.1)) (Int.le_refl _) (fun _ _ _ _ => rfl), RA_fr h.2.2.2 hS ⟨hq.1, hq.2.2.2⟩ (fun k _ _ _ _ _ hp => hV k (ce_lt hp.1)) (Int.le_refl _) (fun _ _ _ _ => rfl)⟩
/-- what was there is as it was but for the BOXES' MEMORIES and LATEST -/
def FrN (S : m_H) (V V' : v_V) : Prop := ∀ k, k < S.length → (∀ b, b < 8 → k ≠ 10 + 6 * b ∧ k ≠ 10 + 6 * b + 3) → V' k = V k
theorem FrN_W {S : m_H} {V V' V'' : v_V} (h : ∀ k, k < S.length → V' k = V k) (h2 : FrW V' V'') : FrN S V V'' := fun k hk hb => (h2 k hb).trans (h k hk)
/-- a packet made at the end of all -/
abbrev pkV (V : v_V) (s : Nat) (t h y o : Int) : v_V := v_up (v_up (v_up (v_up (v_ur V s (fun _ => 0)) s 0 t) s 1 h) s 2 y) s 3 o
theorem pkV_fr {V : v_V} {s : Nat} {t h y o : Int} {k : Nat} (hk : k ≠ s) : pkV V s t h y o k = V k := by
  unfold pkV
  rw [v_up_ne hk, v_up_ne hk, v_up_ne hk, v_up_ne hk, v_ur_ne hk]
theorem pkV_pk {S : m_H} {V : v_V} {t h y o : Int} (hl : S.length < 1000000) : PkS (S ++ [(2, m_dfl 2)]) (pkV V S.length t h y o) S.length t h y o := by
  refine ⟨ce_new hl, ?_, ?_, ?_, ?_⟩
  · unfold pkV
    rw [v_up_ni (by decide), v_up_ni (by decide), v_up_ni (by decide), v_up_eq]
  · unfold pkV
    rw [v_up_ni (by decide), v_up_ni (by decide), v_up_eq]
  · unfold pkV
    rw [v_up_ni (by decide), v_up_eq]
  · unfold pkV
    rw [v_up_eq]
theorem rf_pkO {t h k n : Int} (e : z_rf t h k n = 0) : pkO t h k n := by
  unfold z_rf at e
  split at e
  · rename_i h1
    split at e
    · rename_i h2
      exact ⟨h1.1, h1.2.1, h1.2.2, h2⟩
    · omega
  · omega
theorem rf_vals (t h k n : Int) : z_rf t h k n = 0 ∨ z_rf t h k n = -1 ∨ z_rf t h k n = -2 := by
  unfold z_rf
  split
  · split
    · exact Or.inl rfl
    · exact Or.inr (Or.inr rfl)
  · exact Or.inr (Or.inl rfl)
/-- no TALK is HELD and none waits -/
def relS (σ : Nat → Int) : Nat → Int := v_uf (v_uf σ 4 0) 3 0
theorem relS_ne {σ : Nat → Int} {j : Nat} (h : j ≠ 3 ∧ j ≠ 4) : relS σ j = σ j := by
  unfold relS
  rw [v_uf_ne h.1, v_uf_ne h.2]
theorem relS_3 (σ : Nat → Int) : relS σ 3 = 0 := v_uf_eq _ _ _
theorem relS_4 (σ : Nat → Int) : relS σ 4 = 0 := (v_uf_ne (by decide)).trans (v_uf_eq _ _ _)
theorem relS_SO {cnt : Nat} {σ : Nat → Int} (hs : SO cnt σ) : SO cnt (relS σ) := by
  obtain ⟨a1, a2, a3, a4, a5, a6, a7⟩ := hs
  have e : ∀ j, j ≠ 3 ∧ j ≠ 4 → relS σ j = σ j := fun j hj => relS_ne hj
  refine ⟨?_, ?_, ?_, ?_, ?_, ?_, ?_⟩
  · rw [e 0 (by omega), e 1 (by omega), e 2 (by omega), relS_3, relS_4, e 5 (by omega), e 6 (by omega)]
    exact ⟨a1.1, a1.2.1, a1.2.2.1, by decide, by decide, a1.2.2.2.2.2⟩
  · intro i hi
    rw [e _ (by omega)]
    exact a2 i hi
  · intro b hb
    obtain ⟨c1, c2, c3, c4, c5, c6⟩ := a3 b hb
    rw [e (170 + b) (by omega), e (178 + b) (by omega), e (186 + b) (by omega), e (872 + b) (by omega), e 1 (by omega), e 0 (by omega)]
    refine ⟨c1, c2, c3, c4, fun p hp => ?_, fun p hp => ?_⟩
    · show -2147483648 ≤ relS σ (200 + 84 * b + p) ∧ relS σ (200 + 84 * b + p) < 2147483648
      rw [e _ (by omega)]
      exact c5 p hp
    · show -2147483648 ≤ relS σ (880 + 84 * b + p) ∧ relS σ (880 + 84 * b + p) < 2147483648
      rw [e _ (by omega)]
      exact c6 p hp
  · intro b hb t ht
    rw [e _ (by omega), e 1 (by omega)]
    exact a4 b hb t ht
  · intro i hi
    rw [e _ (by omega), e 1 (by omega), e 2 (by omega)]
    exact a5 i hi
  · intro i hi
    rw [relS_3] at hi
    omega
  · intro i hi
    rw [e 5 (by omega)] at hi
    rw [e _ (by omega), e _ (by omega), e _ (by omega), e _ (by omega)]
    exact a7 i hi
theorem rlS_SO {cnt : Nat} {tl : Nat → List p_Li} : ∀ (m i : Nat) (σ : Nat → Int), SO cnt σ → (∀ i : Nat, (i : Int) < σ 0 → TO (tl i)) → (∀ j, i ≤ j → j < i + m → pkO (σ (1690 + 4 * j)) (σ (1690 + 4 * j + 1)) (σ (1690 + 4 * j + 2)) (σ (1690 + 4 * j + 3))) → SO cnt (rlS tl m i σ) ∧ ∀ j, j < 186 ∨ (194 ≤ j ∧ j < 200) ∨ 872 ≤ j → rlS tl m i σ j = σ j
  | 0, i, σ, hs, _, _ => ⟨hs, fun _ _ => rfl⟩
  | m + 1, i, σ, hs, hT, hp => by
    have hp0 := hp i (by omega) (by omega)
    have h1 := sgS_SO (cnt := cnt) (tl := tl) (h := σ (1690 + 4 * i + 1)) (k := σ (1690 + 4 * i + 2)) (n := σ (1690 + 4 * i + 3)) hp0.1 (σ 2).toNat 0 σ hs hT (by have := hs.1; omega)
    have e := h1.2.1
    have ih := rlS_SO m (i + 1) _ h1.1 (by rw [e 0 (by omega)]; exact hT) (fun j h2 h3 => by rw [e _ (by omega), e _ (by omega), e _ (by omega), e _ (by omega)]; exact hp j (by omega) (by omega))
    unfold rlS
    exact ⟨ih.1, fun j hj => (ih.2 j hj).trans (e j hj)⟩
theorem RN_rel {V : v_V} {σ : Nat → Int} (h : RN V 1 σ) : RN (v_up (v_up V 1 10 0) 1 9 0) 1 (relS σ) := by
  obtain ⟨h1, h2, h3, h4⟩ := h
  have e : ∀ j, j ≠ 3 ∧ j ≠ 4 → relS σ j = σ j := fun j hj => relS_ne hj
  have f : ∀ k, k ≠ 1 → v_up (v_up V 1 10 0) 1 9 0 k = V k := fun k hk => by rw [v_up_ne hk, v_up_ne hk]
  have g : ∀ i, i ≠ 9 → i ≠ 10 → v_up (v_up V 1 10 0) 1 9 0 1 i = V 1 i := fun i h9 h10 => by rw [v_up_ni h9, v_up_ni h10]
  refine ⟨⟨?_, ?_, ?_, ?_, ?_, ?_, ?_⟩, ?_, ?_, ?_⟩
  · rw [g 1 (by decide) (by decide), e 6 (by omega)]; exact h1.1
  · rw [g 3 (by decide) (by decide), e 0 (by omega)]; exact h1.2.1
  · rw [g 5 (by decide) (by decide), e 1 (by omega)]; exact h1.2.2.1
  · rw [g 7 (by decide) (by decide), e 2 (by omega)]; exact h1.2.2.2.1
  · rw [relS_3, v_up_eq]
  · rw [relS_4, v_up_ni (by decide), v_up_eq]
  · rw [g 12 (by decide) (by decide), e 5 (by omega)]; exact h1.2.2.2.2.2.2
  · intro i hi
    rw [f _ (by omega), e _ (by omega)]
    exact h2 i hi
  · intro i hi
    rw [f _ (by omega), e _ (by omega)]
    exact h3 i hi
  · intro b hb
    obtain ⟨c1, c2, c3, c4, c5, c6, c7, c8⟩ := h4 b hb
    unfold BxN
    rw [f _ (by omega), f _ (by omega), f _ (by omega), f _ (by omega), e 1 (by omega), e _ (by omega), e _ (by omega), e _ (by omega), e _ (by omega)]
    refine ⟨c1, c2, c3, c4, c5, fun t ht => by rw [e _ (by omega)]; exact c6 t ht, fun p hp => by rw [e _ (by omega)]; exact c7 p hp, fun p hp => by rw [e _ (by omega)]; exact c8 p hp⟩
theorem RS_rel {S : m_H} {V : v_V} {σ : Nat → Int} {tl : Nat → List p_Li} {cnt : Nat} (h : RS S V 1 σ tl) (hs : SO cnt σ) : RS S (v_up (v_up V 1 10 0) 1 9 0) 1 (relS σ) tl := by
  have e : ∀ j, j ≠ 3 ∧ j ≠ 4 → relS σ j = σ j := fun j hj => relS_ne hj
  have f : ∀ k, k ≠ 1 → v_up (v_up V 1 10 0) 1 9 0 k = V k := fun k hk => by rw [v_up_ne hk, v_up_ne hk]
  exact ⟨RN_rel h.1, RT_fr h.2.1 (SQ_rf 0 S) (by decide) (fun i t _ ht _ hct => CT_hi (fun k hk => f k (by omega)) ht hct) (by rw [e 0 (by omega)]; exact Int.le_refl _), RW_fr h.2.2.1 (SQ_rf 0 S) (by decide) (fun k _ _ _ _ hk _ => f k (by omega)) (by rw [relS_3]; exact hs.1.2.2.2.1.1) (fun j _ i _ => e _ (by omega)), RA_fr h.2.2.2 (SQ_rf 0 S) (by decide) (fun k _ _ _ _ hk _ => f k (by omega)) (by rw [e 5 (by omega)]; exact Int.le_refl _) (fun j _ i _ => e _ (by omega))⟩
