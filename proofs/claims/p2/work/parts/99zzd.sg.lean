/-! the numbers of a state that a call changes -/
def N7 (V : v_V) (σ : Nat → Int) : Prop := V 1 1 = σ 6 ∧ V 1 3 = σ 0 ∧ V 1 5 = σ 1 ∧ V 1 7 = σ 2 ∧ V 1 9 = σ 3 ∧ V 1 10 = σ 4 ∧ V 1 12 = σ 5
def O7 (σ : Nat → Int) : Prop := (0 ≤ σ 0 ∧ σ 0 ≤ 8) ∧ (0 ≤ σ 1 ∧ σ 1 ≤ 8) ∧ (0 ≤ σ 2 ∧ σ 2 ≤ 6) ∧ (0 ≤ σ 3 ∧ σ 3 ≤ 20) ∧ (0 ≤ σ 4 ∧ σ 4 ≤ 65535) ∧ (0 ≤ σ 5 ∧ σ 5 ≤ 5) ∧ (0 ≤ σ 6 ∧ σ 6 ≤ 160)
theorem RN_g {V V' : v_V} {σ σ' : Nat → Int} (h : RN V 1 σ) (hn : N7 V' σ') (ht : ∀ i : Nat, i < 160 → V' 2 i = σ' (10 + i)) (hr : ∀ i : Nat, i < 6 → V' 5 i = σ' (1680 + i)) (f : ∀ k, 10 ≤ k → k < 58 → V' k = V k) (e : ∀ j, 170 ≤ j → (j < 1680 ∨ 1686 ≤ j) → σ' j = σ j) (h1 : σ' 1 = σ 1) : RN V' 1 σ' := by
  obtain ⟨a1, a2, a3, a4⟩ := h
  refine ⟨hn, ht, hr, fun b hb => ?_⟩
  obtain ⟨c1, c2, c3, c4, c5, c6, c7, c8⟩ := a4 b hb
  unfold BxN
  rw [f _ (by omega) (by omega), f _ (by omega) (by omega), f _ (by omega) (by omega), f _ (by omega) (by omega), h1, e _ (by omega) (by omega), e _ (by omega) (by omega), e _ (by omega) (by omega), e _ (by omega) (by omega)]
  exact ⟨c1, c2, c3, c4, c5, fun t ht => by rw [e _ (by omega) (by omega)]; exact c6 t ht, fun p hp => by rw [e _ (by omega) (by omega)]; exact c7 p hp, fun p hp => by rw [e _ (by omega) (by omega)]; exact c8 p hp⟩
theorem SO_g {cnt : Nat} {σ σ' : Nat → Int} (h : SO cnt σ) (hn : O7 σ') (ht : ∀ i : Nat, i < 160 → 0 ≤ σ' (10 + i) ∧ σ' (10 + i) ≤ 255) (hr : ∀ i : Nat, i < 6 → 0 ≤ σ' (1680 + i) ∧ σ' (1680 + i) ≤ 7 ∧ ((i : Int) < σ' 2 → σ' (1680 + i) < σ' 1)) (e : ∀ j, 170 ≤ j → (j < 1680 ∨ 1686 ≤ j) → σ' j = σ j) (h0 : σ' 0 = σ 0) (h1 : σ' 1 = σ 1) (h3 : σ' 3 = σ 3) (h5 : σ' 5 = σ 5) : SO cnt σ' := by
  obtain ⟨a1, a2, a3, a4, a5, a6, a7⟩ := h
  refine ⟨hn, ht, ?_, ?_, hr, ?_, ?_⟩
  · intro b hb
    obtain ⟨c1, c2, c3, c4, c5, c6⟩ := a3 b hb
    rw [e (170 + b) (by omega) (by omega), e (178 + b) (by omega) (by omega), e (186 + b) (by omega) (by omega), e (872 + b) (by omega) (by omega), h1, h0]
    refine ⟨c1, c2, c3, c4, fun p hp => ?_, fun p hp => ?_⟩
    · show -2147483648 ≤ σ' (200 + 84 * b + p) ∧ σ' (200 + 84 * b + p) < 2147483648
      rw [e _ (by omega) (by omega)]
      exact c5 p hp
    · show -2147483648 ≤ σ' (880 + 84 * b + p) ∧ σ' (880 + 84 * b + p) < 2147483648
      rw [e _ (by omega) (by omega)]
      exact c6 p hp
  · intro b hb t ht
    rw [e _ (by omega) (by omega), h1]
    exact a4 b hb t ht
  · intro i hi
    rw [h3] at hi
    rw [e _ (by omega) (by omega), e _ (by omega) (by omega), e _ (by omega) (by omega), e _ (by omega) (by omega)]
    exact a6 i hi
  · intro i hi
    rw [h5] at hi
    rw [e _ (by omega) (by omega), e _ (by omega) (by omega), e _ (by omega) (by omega), e _ (by omega) (by omega)]
    exact a7 i hi
/-- the BOXES change -/
theorem RN_b {V V' : v_V} {σ σ' : Nat → Int} (h : RN V 1 σ) (hn : N7 V' σ') (f : ∀ k, k = 2 ∨ k = 5 → V' k = V k) (e : ∀ j, (10 ≤ j ∧ j < 170) ∨ 1680 ≤ j → σ' j = σ j) (hb : ∀ b : Nat, b < 8 → BxN V' (10 + 6 * b) b σ') : RN V' 1 σ' := by
  obtain ⟨a1, a2, a3, a4⟩ := h
  exact ⟨hn, fun i hi => by rw [f _ (by omega), e _ (by omega)]; exact a2 i hi, fun i hi => by rw [f _ (by omega), e _ (by omega)]; exact a3 i hi, hb⟩
def Ob (cnt : Nat) (σ : Nat → Int) (b : Nat) : Prop := (0 ≤ σ (170 + b) ∧ σ (170 + b) ≤ 6) ∧ (0 ≤ σ (178 + b) ∧ σ (178 + b) ≤ 8 ∧ ((b : Int) < σ 1 → σ (178 + b) < σ 0)) ∧ (-5 ≤ σ (186 + b) ∧ σ (186 + b) ≤ 8) ∧ (0 ≤ σ (872 + b) ∧ σ (872 + b) ≤ cnt) ∧ muO (zm σ (200 + 84 * b)) ∧ muO (zm σ (880 + 84 * b))
theorem SO_b {cnt : Nat} {σ σ' : Nat → Int} (h : SO cnt σ) (hn : O7 σ') (e : ∀ j, (10 ≤ j ∧ j < 170) ∨ 1680 ≤ j → σ' j = σ j) (h1 : σ 1 ≤ σ' 1) (h2 : σ' 2 = σ 2) (h3 : σ' 3 = σ 3) (h5 : σ' 5 = σ 5) (hb : ∀ b : Nat, b < 8 → Ob cnt σ' b) (hl : ∀ b : Nat, b < 8 → ∀ t : Nat, t < 16 → 0 ≤ σ' (1552 + 16 * b + t) ∧ σ' (1552 + 16 * b + t) ≤ 7 ∧ ((b : Int) < σ' 1 → σ' (1552 + 16 * b + t) < σ' 1)) : SO cnt σ' := by
  obtain ⟨a1, a2, a3, a4, a5, a6, a7⟩ := h
  refine ⟨hn, fun i hi => by rw [e _ (by omega)]; exact a2 i hi, hb, hl, fun i hi => ?_, fun i hi => ?_, fun i hi => ?_⟩
  · rw [e _ (by omega), h2]
    have := a5 i hi
    omega
  · rw [h3] at hi
    rw [e _ (by omega), e _ (by omega), e _ (by omega), e _ (by omega)]
    exact a6 i hi
  · rw [h5] at hi
    rw [e _ (by omega), e _ (by omega), e _ (by omega), e _ (by omega)]
    exact a7 i hi
theorem RS_n {S : m_H} {V V' : v_V} {σ σ' : Nat → Int} {tl : Nat → List p_Li} (h : RS S V 1 σ tl) (hn : RN V' 1 σ') (f : ∀ k, 193 ≤ k → V' k = V k) (h0 : σ' 0 = σ 0) (h3 : σ' 3 = σ 3) (b3 : σ 3 ≤ 20) (h5 : σ' 5 = σ 5) (b5 : σ 5 ≤ 5) (e : ∀ j, 1690 ≤ j → σ' j = σ j) : RS S V' 1 σ' tl :=
  ⟨hn, RT_fr h.2.1 (SQ_rf 0 S) (by omega) (fun i t _ ht _ hct => CT_hi f ht hct) (by omega), RW_fr h.2.2.1 (SQ_rf 0 S) (by omega) (fun k _ _ _ _ hk _ => f k hk) (by omega) (fun j _ i _ => e _ (by omega)), RA_fr h.2.2.2 (SQ_rf 0 S) (by omega) (fun k _ _ _ _ hk _ => f k hk) (by omega) (fun j _ i _ => e _ (by omega))⟩
/-- class, then reference: a change of the state's numbers alone -/
theorem RR_n {cnt u w : Nat} {S : m_H} {V V1 V2 : v_V} {σ' : Nat → Int} {tl : Nat → List p_Li} (hC : RC S V (V 171) (V 172) tl) (hM : RM S V (V 171) (V 172) tl (V 0 2)) (hP : RP cnt (V 171) (V 172) tl) (hZ : RZ cnt u w S) (hn : RN V1 1 σ') (hs : SO (cnt + 1) σ') (f : ∀ k, k = 0 ∨ 58 ≤ k ∨ k = 8 → V1 k = V k) (h0 : σ' 0 = V 171 0) (h3 : σ' 3 = V 171 3) (h5 : σ' 5 = V 171 5) (e : ∀ j, 1690 ≤ j → σ' j = V 171 j) (g1 : V2 171 = σ') (g2 : ∀ k, k ≠ 171 → V2 k = V1 k) : RR (cnt + 1) u w S V2 := by
  have hR1 := RS_n hC.2.1 hn (fun k hk => f k (by omega)) h0 h3 hP.1.1.2.2.2.1.2 h5 hP.1.1.2.2.2.2.2.1.2 e
  have hC1 := RC_x hC hZ.1 (SQ_rf 6 S) (SV_rf 6 S) (Or.inl rfl) hR1 h0 (fun k hk => f k (by omega))
  have hM1 := RM_fr hM hM.1 (fun k a b => f k (by omega))
  have hM2 := RM_x hM1 g1 h0 (fun k a b => g2 k (by omega)) ⟨by rw [g2 170 (by decide)], by rw [g2 170 (by decide)]⟩
  exact RR_mk hC1 hM2 (fun k hk => g2 k (by omega)) (congrFun (f 0 (by omega)) 2) (RP_x hP hs h0) (RZ_x (a := 0) (b := 0) hZ (by omega) (by decide) (by decide))
