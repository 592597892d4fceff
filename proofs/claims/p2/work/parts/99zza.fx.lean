/-! a call's frame: what it leaves of all that holds between two calls -/
def SV (q : Nat) (S S' : m_H) : Prop := (∀ k, k ≠ q → k < S.length → m_nth S' k = m_nth S k) ∧ S.length ≤ S'.length
theorem SV_rf (q : Nat) (S : m_H) : SV q S S := ⟨fun _ _ _ => rfl, Nat.le_refl _⟩
theorem SV_app (q : Nat) (S : m_H) (c : Nat × List Value) : SV q S (S ++ [c]) := ⟨fun k _ hk => by rw [m_nth_app, if_neg (by omega)], by rw [List.length_append]; omega⟩
theorem SV_set (q : Nat) (S : m_H) (c : Nat × List Value) : SV q S (S.set q c) := ⟨fun k hk _ => by rw [m_nth_set, if_neg hk], by rw [List.length_set]; omega⟩
theorem SV_tr {q : Nat} {S S' S'' : m_H} (h : SV q S S') (h2 : SV q S' S'') : SV q S S'' := ⟨fun k a b => (h2.1 k a (by have := h.2; omega)).trans (h.1 k a b), Nat.le_trans h.2 h2.2⟩
theorem SV_ce {q : Nat} {S S' : m_H} (h : SV q S S') {k t : Nat} {vs : List Value} (hk : k ≠ q) (hc : ce S k t vs) : ce S' k t vs := ⟨hc.1, (h.1 k hk (m_nth_lt hc.2)).trans hc.2⟩
theorem SV_cf {q : Nat} {S S' : m_H} (h : SV q S S') {k t : Nat} {vs : List Value} (hk : k ≠ q) (hl : k < S.length) (hc : ce S' k t vs) : ce S k t vs := ⟨hc.1, (h.1 k hk hl).symm.trans hc.2⟩
theorem TxS_v {q : Nat} {S S' : m_H} (h : SV q S S') {t : Nat} (hq : q < 193) (ht : 193 ≤ t) (hx : TxS S t) : TxS S' t :=
  ⟨SV_ce h (by omega) hx.1, SV_ce h (by omega) hx.2.1, SV_ce h (by omega) hx.2.2.1, SV_ce h (by omega) hx.2.2.2.1, SV_ce h (by omega) hx.2.2.2.2.1, SV_ce h (by omega) hx.2.2.2.2.2.1, SV_ce h (by omega) hx.2.2.2.2.2.2⟩
theorem MdS_v {q : Nat} {S S' : m_H} (h : MdS S) (hS : SV q S S') (hq : q < 170) : MdS S' := by
  have e : ∀ k t vs, 170 ≤ k → ce S k t vs → ce S' k t vs := fun k t vs hk hc => SV_ce hS (by omega) hc
  obtain ⟨a0, a1, a2, a3, a4, a5, a6, a7, a8, a9, b0, b1, b2, b3, b4, b5, b6, b7, b8, b9, c0, c1, c2⟩ := h
  exact ⟨e _ _ _ (by decide) a0, e _ _ _ (by decide) a1, e _ _ _ (by decide) a2, e _ _ _ (by decide) a3, e _ _ _ (by decide) a4, e _ _ _ (by decide) a5, e _ _ _ (by decide) a6, e _ _ _ (by decide) a7, e _ _ _ (by decide) a8, e _ _ _ (by decide) a9, e _ _ _ (by decide) b0, e _ _ _ (by decide) b1, e _ _ _ (by decide) b2, e _ _ _ (by decide) b3, e _ _ _ (by decide) b4, e _ _ _ (by decide) b5, e _ _ _ (by decide) b6, e _ _ _ (by decide) b7, e _ _ _ (by decide) b8, e _ _ _ (by decide) b9, e _ _ _ (by decide) c0, e _ _ _ (by decide) c1, e _ _ _ (by decide) c2⟩
theorem ClF_v {q : Nat} {S S' : m_H} (h : ClF S) (hS : SV q S S') (hq : cl_mut.contains q = true) : ClF S' := by
  intro k t vs hk
  refine SV_ce hS (fun e => ?_) (h k t vs hk)
  subst e
  unfold cl_at at hk
  rw [if_pos hq] at hk
  cases hk
theorem Rd_v {q : Nat} {S S' : m_H} {l1 l2 : Int} (h : Rd S l1 l2) (hS : SV q S S') (hq : q < 193 ∧ q ≠ 3 ∧ q ≠ 60 ∧ q ≠ 115) (hl : 193 ≤ S.length) : Rd S' l1 l2 := by
  obtain ⟨tp, tv, h1, h2⟩ := h
  refine ⟨tp, tv, SV_ce hS (by omega) h1, ?_⟩
  rcases h2 with h2 | ⟨t, a1, a2, a3, a4, a5⟩
  · exact Or.inl h2
  · exact Or.inr ⟨t, a1, a2, TxS_v hS hq.1 a2 a3, fun ta hc => a4 ta (SV_cf hS (by omega) (by omega) hc), fun ta hc => a5 ta (SV_cf hS (by omega) (by omega) hc)⟩
theorem RS_x {S S' : m_H} {V V' : v_V} {B q : Nat} {σ : Nat → Int} {tl : Nat → List p_Li} (h : RS S V B σ tl) (hS : SQ q S S') (hq : q < 193 ∧ q ≠ B + 2 ∧ q ≠ B + 5 ∧ q ≠ B + 6) (hV : ∀ k, B ≤ k → k < B + 57 → V' k = V k) (hV2 : ∀ k, 193 ≤ k → k < S.length → V' k = V k) : RS S' V' B σ tl :=
  ⟨RN_fr h.1 hV, RT_fr h.2.1 hS ⟨hq.1, hq.2.1⟩ (fun i t _ ht hx hct => CT_r hct (fun i hi => hV2 _ (by omega) (by have h6 := ce_lt hx.2.2.2.2.2.2; omega))) (Int.le_refl _), RW_fr h.2.2.1 hS ⟨hq.1, hq.2.2.1⟩ (fun k _ _ _ _ hk hp => hV2 k hk (ce_lt hp.1)) (Int.le_refl _) (fun _ _ _ _ => rfl), RA_fr h.2.2.2 hS ⟨hq.1, hq.2.2.2⟩ (fun k _ _ _ _ hk hp => hV2 k hk (ce_lt hp.1)) (Int.le_refl _) (fun _ _ _ _ => rfl)⟩
/-- a call that changes the class' state, its TEXTS aside -/
theorem RC_x {S S' : m_H} {V V' : v_V} {q : Nat} {σ σ' τ : Nat → Int} {tl : Nat → List p_Li} (h : RC S V σ τ tl) (hl : 193 ≤ S.length) (hS : SQ q S S') (hV : SV q S S') (hq : q = 6 ∨ q = 7) (h1 : RS S' V' 1 σ' tl) (h0 : σ' 0 = σ 0) (e : ∀ k, k = 0 ∨ k = 8 ∨ (58 ≤ k ∧ k < 170) ∨ (193 ≤ k ∧ k < S.length) → V' k = V k) : RC S' V' σ' τ tl := by
  obtain ⟨a1, a2, a3, a4, ⟨⟨lf, a5⟩, ⟨xs, x1, x2, x3⟩, a7⟩, a8, a9, b1⟩ := h
  refine ⟨ClF_v a1 hV (by rcases hq with rfl | rfl <;> decide), h1, RS_x a3 hS (by omega) (fun k _ _ => e k (by omega)) (fun k _ _ => e k (by omega)), by rw [h0]; exact Rd_v a4 hV (by omega) hl, ⟨⟨lf, SV_ce hV (by omega) a5⟩, ⟨xs, SV_ce hV (by omega) x1, x2, fun v hv => hS.2 _ _ (x3 v hv)⟩, ?_⟩, by rw [e 8 (by omega)]; exact a8, by rw [e 65 (by omega)]; exact a9, by rw [e 0 (by omega)]; exact b1⟩
  exact (Se_V ⟨⟨lf, a5⟩, ⟨xs, x1, x2, x3⟩, a7⟩ (fun k hk => e k (by omega))).2.2
theorem RM_x {S : m_H} {V V2 : v_V} {σ σ' τ : Nat → Int} {tl : Nat → List p_Li} {im : Int} (h : RM S V σ τ tl im) (h1 : V2 171 = σ') (h0 : σ' 0 = σ 0) (e : ∀ k, 172 ≤ k → k ≤ 177 → V2 k = V k) (e2 : V2 170 40 = V 170 40 ∧ V2 170 3 = V 170 3) : RM S V2 σ' τ tl im := by
  obtain ⟨a1, a2, a3, a4, a5, a6⟩ := h
  exact ⟨a1, h1, (e 172 (by decide) (by decide)).trans a3, fun i hi => MT_x (a4 i (by rw [← h0]; exact hi)) (fun k a b => e k (by omega) (by omega)), by rw [e2.1]; exact a5, by rw [e2.2]; exact a6⟩
theorem RP_x {cnt : Nat} {σ σ' τ : Nat → Int} {tl : Nat → List p_Li} (h : RP cnt σ τ tl) (hs : SO (cnt + 1) σ') (h0 : σ' 0 = σ 0) : RP (cnt + 1) σ' τ tl := ⟨hs, SO_le h.2.1 (Nat.le_succ cnt), by rw [h0]; exact h.2.2.1, fun i hi => h.2.2.2 i (by rw [← h0]; exact hi)⟩
theorem RZ_x {cnt u w a b : Nat} {S S' : m_H} (h : RZ cnt u w S) (hl : S.length ≤ S'.length ∧ S'.length ≤ S.length + 12) (ha : a ≤ 12) (hb : b ≤ 400) : RZ (cnt + 1) (u + a) (w + b) S' := by
  unfold RZ at *
  omega
