/-! frames: what a change of shape or numbers leaves of a state -/
/-- but for the cell q all stays as it was in the shape -/
def SQ (q : Nat) (S S' : m_H) : Prop := (∀ k t vs, k ≠ q → ce S k t vs → ce S' k t vs) ∧ ∀ t v, v_asg S t v → v_asg S' t v
theorem SQ_rf (q : Nat) (S : m_H) : SQ q S S := ⟨fun _ _ _ _ h => h, fun _ _ h => h⟩
theorem SQ_app (q : Nat) (S : m_H) (c : Nat × List Value) : SQ q S (S ++ [c]) := by
  refine ⟨fun k t vs _ h => ce_app h, fun t v h => ?_⟩
  rcases h with h | ⟨x, ws, h1, h2⟩
  · exact Or.inl h
  · exact Or.inr ⟨x, ws, h1, ce_app h2⟩
theorem SQ_tr {q : Nat} {S S' S'' : m_H} (h : SQ q S S') (h2 : SQ q S' S'') : SQ q S S'' := ⟨fun k t vs hk hc => h2.1 k t vs hk (h.1 k t vs hk hc), fun t v hv => h2.2 t v (h.2 t v hv)⟩
theorem SQ_set {S : m_H} {q t : Nat} {vs vs' : List Value} (h : ce S q t vs) (ht : 22 ≤ t ∧ t ≤ 26) : SQ q S (S.set q (t, vs')) := by
  refine ⟨fun k t2 us hk hc => ce_ne hc hk, fun t2 v hv => ?_⟩
  rcases hv with hv | ⟨x, ws, h1, h2⟩
  · exact Or.inl hv
  · by_cases hx : x = q
    · subst hx
      have e := h.2.symm.trans h2.2
      simp only [Option.some.injEq, Prod.mk.injEq] at e
      have h5 : t2 = 22 ∨ t2 = 23 ∨ t2 = 24 ∨ t2 = 25 ∨ t2 = 26 ∨ m_cmp t2 = 99 := by
        unfold m_cmp
        split <;> simp
      rcases h5 with rfl | rfl | rfl | rfl | rfl | h5
      · exact absurd (show t = 6 from e.1) (by omega)
      · exact absurd (show t = 0 from e.1) (by omega)
      · exact absurd (show t = 2 from e.1) (by omega)
      · exact absurd (show t = 1 from e.1) (by omega)
      · exact absurd (show t = 8 from e.1) (by omega)
      · rw [h5] at e
        omega
    · exact Or.inr ⟨x, ws, h1, ce_ne h2 hx⟩
theorem TxS_q {q : Nat} {S S' : m_H} {t : Nat} (h : SQ q S S') (hq : q < 193) (ht : 193 ≤ t) (hx : TxS S t) : TxS S' t :=
  ⟨h.1 _ _ _ (by omega) hx.1, h.1 _ _ _ (by omega) hx.2.1, h.1 _ _ _ (by omega) hx.2.2.1, h.1 _ _ _ (by omega) hx.2.2.2.1, h.1 _ _ _ (by omega) hx.2.2.2.2.1, h.1 _ _ _ (by omega) hx.2.2.2.2.2.1, h.1 _ _ _ (by omega) hx.2.2.2.2.2.2⟩
theorem RT_fr {S S' : m_H} {V V' : v_V} {B q : Nat} {σ σ' : Nat → Int} {tl : Nat → List p_Li} (h : RT S V B σ tl) (hS : SQ q S S') (hq : q < 193 ∧ q ≠ B + 2) (hV : ∀ i t : Nat, (i : Int) < σ 0 → 193 ≤ t → TxS S t → CT V t (tl i) → CT V' t (tl i)) (h0 : σ' 0 ≤ σ 0) : RT S' V' B σ' tl := by
  obtain ⟨ta, a1, a2, a3, a4⟩ := h
  refine ⟨ta, hS.1 _ _ _ (by omega) a1, a2, fun v hv => hS.2 _ _ (a3 v hv), fun i hi => ?_⟩
  obtain ⟨t, b1, b2, b3, b4⟩ := a4 i (by omega)
  exact ⟨t, b1, b2, TxS_q hS hq.1 b2 b3, hV i t (by omega) b2 b3 b4⟩
theorem CT_hi {V V' : v_V} (hV : ∀ k, 193 ≤ k → V' k = V k) {t : Nat} {l : List p_Li} (ht : 193 ≤ t) (h : CT V t l) : CT V' t l := CT_r h (fun i _ => hV _ (by omega))
theorem PkA_fr {S S' : m_H} {V V' : v_V} {vs : List Value} {N q c : Nat} {lim lim' : Int} {σ σ' : Nat → Int} (h : PkA S V vs N lim σ q) (hS : SQ c S S') (hc : c < 193) (hV : ∀ k t h' y n, 193 ≤ k → PkS S V k t h' y n → V' k = V k) (hl : lim' ≤ lim) (hσ : ∀ j : Nat, (j : Int) < lim → ∀ i, i < 4 → σ' (q + 4 * j + i) = σ (q + 4 * j + i)) : PkA S' V' vs N lim' σ' q := by
  obtain ⟨a1, a2, a3⟩ := h
  refine ⟨a1, fun v hv => hS.2 _ _ (a2 v hv), fun i hi => ?_⟩
  obtain ⟨pk, b1, b2, b3⟩ := a3 i (by omega)
  have e := hσ i (by omega)
  have e0 := e 0 (by decide)
  rw [Nat.add_zero] at e0
  refine ⟨pk, b1, b2, ?_⟩
  rw [e0, e 1 (by decide), e 2 (by decide), e 3 (by decide)]
  have b4 := PkS_r b3 (hV pk _ _ _ _ b2 b3)
  exact ⟨hS.1 _ _ _ (by omega) b4.1, b4.2⟩
theorem RW_fr {S S' : m_H} {V V' : v_V} {B c : Nat} {σ σ' : Nat → Int} (h : RW S V B σ) (hS : SQ c S S') (hc : c < 193 ∧ c ≠ B + 5) (hV : ∀ k t h' y n, 193 ≤ k → PkS S V k t h' y n → V' k = V k) (h3 : σ' 3 ≤ σ 3) (hσ : ∀ j : Nat, (j : Int) < σ 3 → ∀ i, i < 4 → σ' (1690 + 4 * j + i) = σ (1690 + 4 * j + i)) : RW S' V' B σ' := by
  obtain ⟨wa, h1, h2⟩ := h
  exact ⟨wa, hS.1 _ _ _ (by omega) h1, PkA_fr h2 hS hc.1 hV h3 hσ⟩
theorem RA_fr {S S' : m_H} {V V' : v_V} {B c : Nat} {σ σ' : Nat → Int} (h : RA S V B σ) (hS : SQ c S S') (hc : c < 193 ∧ c ≠ B + 6) (hV : ∀ k t h' y n, 193 ≤ k → PkS S V k t h' y n → V' k = V k) (h3 : σ' 5 ≤ σ 5) (hσ : ∀ j : Nat, (j : Int) < σ 5 → ∀ i, i < 4 → σ' (1770 + 4 * j + i) = σ (1770 + 4 * j + i)) : RA S' V' B σ' := by
  obtain ⟨wa, h1, h2⟩ := h
  exact ⟨wa, hS.1 _ _ _ (by omega) h1, PkA_fr h2 hS hc.1 hV h3 hσ⟩
/-- the numbers of a state, told by other rows that are the same there -/
theorem RN_fr {V V' : v_V} {B : Nat} {σ : Nat → Int} (h : RN V B σ) (hV : ∀ k, B ≤ k → k < B + 57 → V' k = V k) : RN V' B σ := by
  obtain ⟨h1, h2, h3, h4⟩ := h
  refine ⟨by rw [hV B (by omega) (by omega)]; exact h1, by rw [hV (B + 1) (by omega) (by omega)]; exact h2, by rw [hV (B + 4) (by omega) (by omega)]; exact h3, fun b hb => ?_⟩
  have h5 := h4 b hb
  unfold BxN at *
  rw [hV (B + 9 + 6 * b) (by omega) (by omega), hV (B + 9 + 6 * b + 1) (by omega) (by omega), hV (B + 9 + 6 * b + 3) (by omega) (by omega), hV (B + 9 + 6 * b + 5) (by omega) (by omega)]
  exact h5
theorem RS_fr {S S' : m_H} {V V' : v_V} {B c : Nat} {σ : Nat → Int} {tl : Nat → List p_Li} (h : RS S V B σ tl) (hB : B = 1 ∨ B = 58) (hS : SQ c S S') (hc : c < 193 ∧ c ≠ B + 2 ∧ c ≠ B + 5 ∧ c ≠ B + 6) (hV : ∀ k, B ≤ k → k < B + 57 → V' k = V k) (hV2 : ∀ k, 193 ≤ k → V' k = V k) : RS S' V' B σ tl :=
  ⟨RN_fr h.1 hV, RT_fr h.2.1 hS ⟨hc.1, hc.2.1⟩ (fun i t _ ht _ hct => CT_hi hV2 ht hct) (Int.le_refl _), RW_fr h.2.2.1 hS ⟨hc.1, hc.2.2.1⟩ (fun k _ _ _ _ hk _ => hV2 k hk) (Int.le_refl _) (fun _ _ _ _ => rfl), RA_fr h.2.2.2 hS ⟨hc.1, hc.2.2.2⟩ (fun k _ _ _ _ hk _ => hV2 k hk) (Int.le_refl _) (fun _ _ _ _ => rfl)⟩
/-- a call that works packets leaves all but the BOXES' MEMORIES and LATEST -/
def FrW (V V' : v_V) : Prop := ∀ k, (∀ b, b < 8 → k ≠ 10 + 6 * b ∧ k ≠ 10 + 6 * b + 3) → V' k = V k
theorem FrW_rf (V : v_V) : FrW V V := fun _ _ => rfl
theorem FrW_tr {V V' V'' : v_V} (h : FrW V V') (h2 : FrW V' V'') : FrW V V'' := fun k hk => (h2 k hk).trans (h k hk)
theorem FrW_hi {V V' : v_V} (h : FrW V V') (k : Nat) (hk : k < 10 ∨ 56 ≤ k) : V' k = V k := h k (fun b hb => by omega)
theorem FrW_st {V : v_V} {b : Nat} (hb : b < 8) {x : Int} {f : Nat → Int} : FrW V (v_ur (v_up V (10 + 6 * b) 3 x) (10 + 6 * b + 3) f) := by
  intro k hk
  have := hk b hb
  rw [v_ur_ne this.2, v_up_ne this.1]
theorem RS_sg {S : m_H} {W : v_V} {σ : Nat → Int} {tl : Nat → List p_Li} {cnt b : Nat} {a h κ n : Int} (hRS : RS S W 1 σ tl) (hSO : SO cnt σ) (hTO : ∀ i : Nat, (i : Int) < σ 0 → TO (tl i)) (hb : b < 8) (hbn : (b : Int) < σ 1) (hpk : pkO a h κ n) :
    (eW a h κ n (tl (σ (178 + b)).toNat) (W (10 + 6 * b + 3))).1 = (sgW tl σ b a h κ n).1 ∧ RS S (v_ur (v_up W (10 + 6 * b) 3 (eL (W (10 + 6 * b + 3)) a h κ n 0 (tl (σ (178 + b)).toNat))) (10 + 6 * b + 3) (eW a h κ n (tl (σ (178 + b)).toNat) (W (10 + 6 * b + 3))).2) 1 (sgW tl σ b a h κ n).2 tl := by
  have hx := (hSO.2.2.1 b hb).2.1
  have hl := hTO (σ (178 + b)).toNat (by have := hx.2.2 hbn; omega)
  have hB := hRS.1.2.2.2 b hb
  have hm : ∀ p : Nat, p < 84 → W (10 + 6 * b + 3) p = zm σ (200 + 84 * b) p := fun p hp => hB.2.2.2.2.2.2.1 p hp
  have e1 := eW_congr hpk _ _ _ hm hl.1
  have e2 := eL_congr hm hpk _ 0 hl.1
  have fr := FrW_st (V := W) hb (x := eL (W (10 + 6 * b + 3)) a h κ n 0 (tl (σ (178 + b)).toNat)) (f := (eW a h κ n (tl (σ (178 + b)).toNat) (W (10 + 6 * b + 3))).2)
  have fh := FrW_hi fr
  have es : ∀ j, j < 186 ∨ (194 ≤ j ∧ j < 200) ∨ 872 ≤ j → (sgW tl σ b a h κ n).2 j = σ j := fun j hj => sgW_lt hj hb
  refine ⟨e1.1, ?_, RT_fr hRS.2.1 (SQ_rf 0 S) (by decide) (fun i t _ ht _ hct => CT_hi (fun k hk => fh k (by omega)) ht hct) (by rw [es 0 (by omega)]; omega), RW_fr hRS.2.2.1 (SQ_rf 0 S) (by decide) (fun k _ _ _ _ hk _ => fh k (by omega)) (by rw [es 3 (by omega)]; omega) (fun j _ i _ => es _ (by omega)), RA_fr hRS.2.2.2 (SQ_rf 0 S) (by decide) (fun k _ _ _ _ hk _ => fh k (by omega)) (by rw [es 5 (by omega)]; omega) (fun j _ i _ => es _ (by omega))⟩
  obtain ⟨h1, h2, h3, h4⟩ := hRS.1
  refine ⟨?_, ?_, ?_, ?_⟩
  · rw [fh 1 (by omega), es 0 (by omega), es 1 (by omega), es 2 (by omega), es 3 (by omega), es 4 (by omega), es 5 (by omega), es 6 (by omega)]
    exact h1
  · intro i hi
    rw [fh (1 + 1) (by omega), es _ (by omega)]
    exact h2 i hi
  · intro i hi
    rw [fh (1 + 4) (by omega), es _ (by omega)]
    exact h3 i hi
  · intro c hc
    have hcb := h4 c hc
    have f0 : ∀ o, o = 1 ∨ o = 2 ∨ o = 4 ∨ o = 5 → (v_ur (v_up W (10 + 6 * b) 3 (eL (W (10 + 6 * b + 3)) a h κ n 0 (tl (σ (178 + b)).toNat))) (10 + 6 * b + 3) (eW a h κ n (tl (σ (178 + b)).toNat) (W (10 + 6 * b + 3))).2) (1 + 9 + 6 * c + o) = W (1 + 9 + 6 * c + o) := fun o ho => fr _ (fun d hd => by omega)
    obtain ⟨c1, c2, c3, c4, c5, c6, c7, c8⟩ := hcb
    unfold BxN
    rw [f0 1 (by omega), f0 5 (by omega), es 1 (by omega), es (170 + c) (by omega), es (178 + c) (by omega), es (872 + c) (by omega)]
    by_cases hcb : c = b
    · subst hcb
      rw [v_ur_ne (show 1 + 9 + 6 * c ≠ 10 + 6 * c + 3 by omega), show 1 + 9 + 6 * c = 10 + 6 * c by omega, v_ur_eq, v_up_ni (show 0 ≠ 3 by decide), v_up_ni (show 1 ≠ 3 by decide), v_up_ni (show 2 ≠ 3 by decide), v_up_ni (show 4 ≠ 3 by decide), v_up_eq]
      refine ⟨c1, c2, c3, ?_, c5, fun t ht => by rw [es _ (by omega)]; exact c6 t ht, fun p hp => ?_, fun p hp => by rw [es _ (by omega)]; exact c8 p hp⟩
      · rw [e2]
        exact (v_uf_eq _ _ _).symm
      · rw [e1.2 p hp]
        have e5 : (sgW tl σ c a h κ n).2 (200 + 84 * c + p) = zm (zi σ (200 + 84 * c) (eW a h κ n (tl (σ (178 + c)).toNat) (zm σ (200 + 84 * c))).2) (200 + 84 * c) p := v_uf_ne (by omega)
        rw [e5, zm_zi hp]
    · rw [v_ur_ne (show 1 + 9 + 6 * c ≠ 10 + 6 * b + 3 by omega), v_up_ne (show 1 + 9 + 6 * c ≠ 10 + 6 * b by omega), v_ur_ne (show 1 + 9 + 6 * c + 3 ≠ 10 + 6 * b + 3 by omega), v_up_ne (show 1 + 9 + 6 * c + 3 ≠ 10 + 6 * b by omega)]
      refine ⟨c1, c2, c3, by rw [sgW_fr (by omega) (by omega)]; exact c4, c5, fun t ht => by rw [es _ (by omega)]; exact c6 t ht, fun p hp => ?_, fun p hp => by rw [es _ (by omega)]; exact c8 p hp⟩
      rw [sgW_fr (by omega) (by omega)]
      exact c7 p hp
