/-! TEXTS and packets lie apart -/
theorem ce_ty {S : m_H} {k t t2 : Nat} {vs ws : List Value} (h : ce S k t vs) (h2 : ce S k t2 ws) : t = t2 := by
  have e := h.2.symm.trans h2.2
  simp only [Option.some.injEq, Prod.mk.injEq] at e
  exact e.1
theorem Tx_ty {S : m_H} {t d : Nat} (h : TxS S t) (h1 : 1 ≤ d) (h6 : d ≤ 6) : ∃ vs, ce S (t + d) 20 vs := by
  rcases (show d = 1 ∨ d = 2 ∨ d = 3 ∨ d = 4 ∨ d = 5 ∨ d = 6 by omega) with rfl | rfl | rfl | rfl | rfl | rfl
  · exact ⟨_, h.2.1⟩
  · exact ⟨_, h.2.2.1⟩
  · exact ⟨_, h.2.2.2.1⟩
  · exact ⟨_, h.2.2.2.2.1⟩
  · exact ⟨_, h.2.2.2.2.2.1⟩
  · exact ⟨_, h.2.2.2.2.2.2⟩
theorem Tx_dj {S : m_H} {t t2 i : Nat} (h : TxS S t) (h2 : TxS S t2) (hne : t2 ≠ t) (hi : i ≤ 6) : t2 + i < t ∨ t + 6 < t2 + i := by
  by_cases hh : t2 + i < t ∨ t + 6 < t2 + i
  · exact hh
  · exfalso
    rcases (show t2 < t ∨ t < t2 by omega) with h3 | h3
    · obtain ⟨vs, hc⟩ := Tx_ty (d := t - t2) h2 (by omega) (by omega)
      rw [show t2 + (t - t2) = t by omega] at hc
      exact absurd (ce_ty hc h.1) (by decide)
    · obtain ⟨vs, hc⟩ := Tx_ty (d := t2 - t) h (by omega) (by omega)
      rw [show t + (t2 - t) = t2 by omega] at hc
      exact absurd (ce_ty hc h2.1) (by decide)
theorem Pk_dj {S : m_H} {V : v_V} {t pk : Nat} {a b c d : Int} (h : TxS S t) (h2 : PkS S V pk a b c d) : pk < t ∨ t + 6 < pk := by
  by_cases hh : pk < t ∨ t + 6 < pk
  · exact hh
  · exfalso
    by_cases e : pk = t
    · rw [e] at h2
      exact absurd (ce_ty h2.1 h.1) (by decide)
    · obtain ⟨vs, hc⟩ := Tx_ty (d := pk - t) h (by omega) (by omega)
      rw [show t + (pk - t) = pk by omega] at hc
      exact absurd (ce_ty h2.1 hc) (by decide)
/-- the shape when a TEXT was read -/
theorem SV_rd {S S' : m_H} (hl : 193 ≤ S.length) (h : ∀ q, q < S.length → q ≠ 115 → m_nth S' q = m_nth S q) : SV 115 S S' := by
  refine ⟨fun k a b => h k b a, ?_⟩
  have e := h (S.length - 1) (by omega) (by omega)
  have e2 : m_nth S (S.length - 1) = some (S[S.length - 1]'(by omega)) := by
    rw [m_nth_eq]
    exact List.getElem?_eq_getElem (by omega)
  have := m_nth_lt (e.trans e2)
  omega
theorem asg_rd {S S' : m_H} {vs : List Value} (h : SV 115 S S') (hc : ce S 115 3 vs) : ∀ t v, v_asg S t v → v_asg S' t v := by
  intro t v hv
  rcases hv with hv | ⟨x, ws, h1, h2⟩
  · exact Or.inl hv
  · refine Or.inr ⟨x, ws, h1, SV_ce h (fun e => ?_) h2⟩
    subst e
    have e := ce_ty hc h2
    have h5 : t = 22 ∨ t = 23 ∨ t = 24 ∨ t = 25 ∨ t = 26 ∨ m_cmp t = 99 := by
      unfold m_cmp
      split <;> simp
    rcases h5 with rfl | rfl | rfl | rfl | rfl | h5
    · exact absurd (show 3 = 6 from e) (by omega)
    · exact absurd (show 3 = 0 from e) (by omega)
    · exact absurd (show 3 = 2 from e) (by omega)
    · exact absurd (show 3 = 1 from e) (by omega)
    · exact absurd (show 3 = 8 from e) (by omega)
    · rw [h5] at e
      omega
/-- a state, when a TEXT was read that none of its TEXTS is -/
theorem RS_rd {S S' : m_H} {V V' : v_V} {B : Nat} {σ : Nat → Int} {tl : Nat → List p_Li} {t : Nat} {vs : List Value} (h : RS S V B σ tl) (hB : B = 1 ∨ B = 58) (hS : SV 115 S S') (hc : ce S 115 3 vs) (hV : ∀ k, B ≤ k → k < B + 57 → V' k = V k) (hV2 : ∀ k, 193 ≤ k → k < S.length → (k < t ∨ t + 6 < k) → V' k = V k)
    (ht : (TxS S t ∧ NT S (B + 2) (σ 0) t) ∨ S.length ≤ t) : RS S' V' B σ tl := by
  have hpk : ∀ pk a b c d, 193 ≤ pk → PkS S V pk a b c d → PkS S' V' pk a b c d := by
    intro pk a b c d hk hp
    have hlt := ce_lt hp.1
    have e := hV2 pk hk hlt (by
      rcases ht with ht | ht
      · exact Pk_dj ht.1 hp
      · omega)
    have h1 := PkS_r hp e
    exact ⟨SV_ce hS (by omega) h1.1, h1.2⟩
  have hP : ∀ (vs : List Value) (N q : Nat) (lim : Int), PkA S V vs N lim σ q → PkA S' V' vs N lim σ q := by
    intro vs N q lim ⟨a1, a2, a3⟩
    refine ⟨a1, fun v hv => asg_rd hS hc _ _ (a2 v hv), fun i hi => ?_⟩
    obtain ⟨pk, b1, b2, b3⟩ := a3 i hi
    exact ⟨pk, b1, b2, hpk _ _ _ _ _ b2 b3⟩
  obtain ⟨hN, ⟨ta, t1, t2, t3, t4⟩, ⟨wa, w1, w2⟩, ⟨la, l1, l2⟩⟩ := h
  refine ⟨RN_fr hN hV, ⟨ta, SV_ce hS (by omega) t1, t2, fun v hv => asg_rd hS hc _ _ (t3 v hv), fun i hi => ?_⟩, ⟨wa, SV_ce hS (by omega) w1, hP _ _ _ _ w2⟩, ⟨la, SV_ce hS (by omega) l1, hP _ _ _ _ l2⟩⟩
  obtain ⟨t', b1, b2, b3, b4⟩ := t4 i hi
  refine ⟨t', b1, b2, TxS_v hS (by omega) b2 b3, CT_r b4 (fun d hd => hV2 _ (by omega) ?_ ?_)⟩
  · have h6 := ce_lt b3.2.2.2.2.2.2
    omega
  · rcases ht with ht | ht
    · refine Tx_dj ht.1 b3 (fun e => ?_) hd
      subst e
      exact ht.2 ta t1 i hi b1
    · have h6 := ce_lt b3.2.2.2.2.2.2
      omega
