section
/-! TEXTS and packets lie apart -/
theorem ce_ty {S : m_H} {k t t2 : Nat} {vs ws : List Value} (h : ce S k t vs) (h2 : ce S k t2 ws) : t = t2 := by
  have e := h.2.symm.trans h2.2
  simp only [Option.some.injEq, Prod.mk.injEq] at e
  exact e.1
theorem Tx_ty {S : m_H} {t d : Nat} (h : TxS S t) (h1 : 1 ≤ d) (h6 : d ≤ 6) : ∃ vs, ce S (t + d) 20 vs := by
  rcases (show d = 1 ∨ d = 2 ∨ d = 3 ∨ d = 4 ∨ d = 5 ∨ d = 6 by omega) with rfl | rfl | rfl | rfl | rfl | rfl
  · exact ⟨_, h.2.1⟩
  · exact ⟨_, h.2.2.1⟩
  · exact ⟨_, h.2.2.2.1⟩
  · exact ⟨_, h.2.2.2.2.1⟩
  · exact ⟨_, h.2.2.2.2.2.1⟩
  · exact ⟨_, h.2.2.2.2.2.2⟩
theorem Tx_dj {S : m_H} {t t2 i : Nat} (h : TxS S t) (h2 : TxS S t2) (hne : t2 ≠ t) (hi : i ≤ 6) : t2 + i < t ∨ t + 6 < t2 + i := by
  by_cases hh : t2 + i < t ∨ t + 6 < t2 + i
  · exact hh
  · exfalso
    rcases (show t2 < t ∨ t < t2 by omega) with h3 | h3
    · obtain ⟨vs, hc⟩ := Tx_ty (d := t - t2) h2 (by omega) (by omega)
      rw [show t2 + (t - t2) = t by omega] at hc
      exact absurd (ce_ty hc h.1) (by decide)
    · obtain ⟨vs, hc⟩ := Tx_ty (d := t2 - t) h (by omega) (by omega)
      rw [show t + (t2 - t) = t2 by omega] at hc
      exact absurd (ce_ty hc h2.1) (by decide)
theorem Pk_dj {S : m_H} {V : v_V} {t pk : Nat} {a b c d : Int} (h : TxS S t) (h2 : PkS S V pk a b c d) : pk < t ∨ t + 6 < pk := by
  by_cases hh : pk < t ∨ t + 6 < pk
  · exact hh
  · exfalso
    by_cases e : pk = t
    · rw [e] at h2
      exact absurd (ce_ty h2.1 h.1) (by decide)
    · obtain ⟨vs, hc⟩ := Tx_ty (d := pk - t) h (by omega) (by omega)
      rw [show t + (pk - t) = pk by omega] at hc
      exact absurd (ce_ty h2.1 hc) (by decide)
/-- the shape when a TEXT was read -/
theorem SV_rd {S S' : m_H} (hl : 193 ≤ S.length) (h : ∀ q, q < S.length → q ≠ 115 → m_nth S' q = m_nth S q) : SV 115 S S' := by
  refine ⟨fun k a b => h k b a, ?_⟩
  have e := h (S.length - 1) (by omega) (by omega)
  have e2 : m_nth S (S.length - 1) = some (S[S.length - 1]'(by omega)) := by
    rw [m_nth_eq]
    exact List.getElem?_eq_getElem (by omega)
  have := m_nth_lt (e.trans e2)
  omega
theorem asg_rd {S S' : m_H} {vs : List Value} (h : SV 115 S S') (hc : ce S 115 3 vs) : ∀ t v, v_asg S t v → v_asg S' t v := by
  intro t v hv
  rcases hv with hv | ⟨x, ws, h1, h2⟩
  · exact Or.inl hv
  · refine Or.inr ⟨x, ws, h1, SV_ce h (fun e => ?_) h2⟩
    subst e
    have e := ce_ty hc h2
    have h5 : t = 22 ∨ t = 23 ∨ t = 24 ∨ t = 25 ∨ t = 26 ∨ m_cmp t = 99 := by
      unfold m_cmp
      split <;> simp
    rcases h5 with rfl | rfl | rfl | rfl | rfl | h5
    · exact absurd (show 3 = 6 from e) (by omega)
    · exact absurd (show 3 = 0 from e) (by omega)
    · exact absurd (show 3 = 2 from e) (by omega)
    · exact absurd (show 3 = 1 from e) (by omega)
    · exact absurd (show 3 = 8 from e) (by omega)
    · rw [h5] at e
      omega
/-- a state, when a TEXT was read that none of its TEXTS is -/
theorem RS_rd {S S' : m_H} {V V' : v_V} {B : Nat} {σ : Nat → Int} {tl : Nat → List p_Li} {t : Nat} {vs : List Value} (h : RS S V B σ tl) (hB : B = 1 ∨ B = 58) (hS : SV 115 S S') (hc : ce S 115 3 vs) (hV : ∀ k, B ≤ k → k < B + 57 → V' k = V k) (hV2 : ∀ k, 193 ≤ k → k < S.length → (k < t ∨ t + 6 < k) → V' k = V k)
    (ht : (TxS S t ∧ NT S (B + 2) (σ 0) t) ∨ S.length ≤ t) : RS S' V' B σ tl := by
  have hpk : ∀ pk a b c d, 193 ≤ pk → PkS S V pk a b c d → PkS S' V' pk a b c d := by
    intro pk a b c d hk hp
    have hlt := ce_lt hp.1
    have e := hV2 pk hk hlt (by
      rcases ht with ht | ht
      · exact Pk_dj ht.1 hp
      · omega)
    have h1 := PkS_r hp e
    exact ⟨SV_ce hS (by omega) h1.1, h1.2⟩
  have hP : ∀ (vs : List Value) (N q : Nat) (lim : Int), PkA S V vs N lim σ q → PkA S' V' vs N lim σ q := by
    intro vs N q lim ⟨a1, a2, a3⟩
    refine ⟨a1, fun v hv => asg_rd hS hc _ _ (a2 v hv), fun i hi => ?_⟩
    obtain ⟨pk, b1, b2, b3⟩ := a3 i hi
    exact ⟨pk, b1, b2, hpk _ _ _ _ _ b2 b3⟩
  obtain ⟨hN, ⟨ta, t1, t2, t3, t4⟩, ⟨wa, w1, w2⟩, ⟨la, l1, l2⟩⟩ := h
  refine ⟨RN_fr hN hV, ⟨ta, SV_ce hS (by omega) t1, t2, fun v hv => asg_rd hS hc _ _ (t3 v hv), fun i hi => ?_⟩, ⟨wa, SV_ce hS (by omega) w1, hP _ _ _ _ w2⟩, ⟨la, SV_ce hS (by omega) l1, hP _ _ _ _ l2⟩⟩
  obtain ⟨t', b1, b2, b3, b4⟩ := t4 i hi
  refine ⟨t', b1, b2, TxS_v hS (by omega) b2 b3, CT_r b4 (fun d hd => hV2 _ (by omega) ?_ ?_)⟩
  · have h6 := ce_lt b3.2.2.2.2.2.2
    omega
  · rcases ht with ht | ht
    · refine Tx_dj ht.1 b3 (fun e => ?_) hd
      subst e
      exact ht.2 ta t1 i hi b1
    · have h6 := ce_lt b3.2.2.2.2.2.2
      omega
end
section
/-! text: what it leaves -/
theorem RS_tl {S : m_H} {V : v_V} {B : Nat} {σ : Nat → Int} {tl tl' : Nat → List p_Li} (h : RS S V B σ tl) (e : ∀ i : Nat, (i : Int) < σ 0 → tl' i = tl i) : RS S V B σ tl' := by
  obtain ⟨h1, ⟨ta, t1, t2, t3, t4⟩, h3, h4⟩ := h
  refine ⟨h1, ⟨ta, t1, t2, t3, fun i hi => ?_⟩, h3, h4⟩
  obtain ⟨t, b1, b2, b3, b4⟩ := t4 i hi
  exact ⟨t, b1, b2, b3, by rw [e i hi]; exact b4⟩
theorem SO_t {cnt : Nat} {σ σ' : Nat → Int} (h : SO cnt σ) (hn : O7 σ') (e : ∀ j, 1 ≤ j → j ≠ 6 → σ' j = σ j) (h0 : σ 0 ≤ σ' 0) : SO cnt σ' := by
  obtain ⟨a1, a2, a3, a4, a5, a6, a7⟩ := h
  refine ⟨hn, fun i hi => by rw [e _ (by omega) (by omega)]; exact a2 i hi, fun b hb => ?_, fun b hb t ht => by rw [e _ (by omega) (by omega), e 1 (by omega) (by omega)]; exact a4 b hb t ht, fun i hi => by rw [e _ (by omega) (by omega), e 1 (by omega) (by omega), e 2 (by omega) (by omega)]; exact a5 i hi, fun i hi => ?_, fun i hi => ?_⟩
  · obtain ⟨c1, c2, c3, c4, c5, c6⟩ := a3 b hb
    rw [e (170 + b) (by omega) (by omega), e (178 + b) (by omega) (by omega), e (186 + b) (by omega) (by omega), e (872 + b) (by omega) (by omega), e 1 (by omega) (by omega)]
    refine ⟨c1, ⟨c2.1, c2.2.1, fun q => by have := c2.2.2 q; omega⟩, c3, c4, fun p hp => ?_, fun p hp => ?_⟩
    · show -2147483648 ≤ σ' (200 + 84 * b + p) ∧ σ' (200 + 84 * b + p) < 2147483648
      rw [e _ (by omega) (by omega)]
      exact c5 p hp
    · show -2147483648 ≤ σ' (880 + 84 * b + p) ∧ σ' (880 + 84 * b + p) < 2147483648
      rw [e _ (by omega) (by omega)]
      exact c6 p hp
  · rw [e 3 (by omega) (by omega)] at hi
    rw [e _ (by omega) (by omega), e _ (by omega) (by omega), e _ (by omega) (by omega), e _ (by omega) (by omega)]
    exact a6 i hi
  · rw [e 5 (by omega) (by omega)] at hi
    rw [e _ (by omega) (by omega), e _ (by omega) (by omega), e _ (by omega) (by omega), e _ (by omega) (by omega)]
    exact a7 i hi
theorem MT_TX {V V' : v_V} {a i : Nat} {l : List p_Li} (h : MT V i l) (hT : TX a V V') (hi : i ≠ a) (hl : TO l) : MT V' i l := by
  obtain ⟨t1, t2, t3, t4, t5, t6⟩ := hT
  obtain ⟨m1, m2, m3, m4, m5⟩ := h
  have h8 := hl.2.2.1
  have h200 := hl.2.2.2.1
  refine ⟨by rw [t4 i hi]; exact m1, fun j x hj => ?_, by rw [t5 i hi]; exact m3, fun j x hj => ?_, fun c hc => ?_⟩
  · have := m_nth_lt hj
    rw [t3 _ (by omega)]
    exact m2 j x hj
  · have := m_nth_lt hj
    rw [(t6 _ (by omega)).1]
    exact m4 j x hj
  · rw [(t6 _ (by omega)).2]
    exact m5 c hc
theorem NT_new {S : m_H} {V : v_V} {B : Nat} {σ : Nat → Int} {tl : Nat → List p_Li} (h : RT S V B σ tl) {t : Nat} (ht : S.length ≤ t) : NT S (B + 2) (σ 0) t := by
  obtain ⟨ta, t1, t2, t3, t4⟩ := h
  intro ta2 hc i hi
  have e : ta2 = ta := by
    have e := hc.2.symm.trans t1.2
    simp only [Option.some.injEq, Prod.mk.injEq] at e
    exact e.2
  obtain ⟨t', b1, b2, b3, b4⟩ := t4 i hi
  have := ce_lt b3.1
  rw [e, b1]
  intro q
  simp only [Option.some.injEq, Value.ref.injEq] at q
  have q2 : (t' : Nat) = t := q
  omega
/-- FED is empty again: both states when a TEXT was read -/
theorem RC_rd {S S' : m_H} {V V' : v_V} {σ τ : Nat → Int} {tl : Nat → List p_Li} {tp tv : Value} {t : Nat} (h : RC S V σ τ tl) (hs : σ 3 ≤ 20 ∧ σ 5 ≤ 5) (hl : 193 ≤ S.length) (r1 : ce S 115 3 [tp, .int 0, .int 0, tv]) (r2 : tv = .null ∨ ∃ t, tv = .ref t ∧ 193 ≤ t ∧ TxS S t ∧ NT S 3 (σ 0) t ∧ NT S 60 (τ 0) t) (q4 : 193 ≤ t ∧ (tv = .ref t ∨ t = S.length)) (q5 : ∀ k, k ≠ 115 → k < S.length → (k < t ∨ t + 6 < k) → V' k = v_up V 1 1 0 k) (q9 : ∀ q, q < S.length → q ≠ 115 → m_nth S' q = m_nth S q) :
    RS S' V' 1 (v_uf σ 6 0) tl ∧ RS S' V' 58 τ tl ∧ NT S' 3 (σ 0) t ∧ NT S' 60 (τ 0) t ∧ ClF S' ∧ SV 115 S S' ∧ (∃ lf, ce S' 116 4 (S116l lf)) ∧ XsA S' ∧ ∀ k, k ≠ 1 → k < 193 → k ≠ 115 → V' k = V k := by
  obtain ⟨a1, a2, a3, -, ⟨⟨lf, s1⟩, ⟨xs, x1, x2, x3⟩, s3⟩, -, -, -⟩ := h
  have hS := SV_rd hl q9
  have hNT : (TxS S t ∧ NT S 3 (σ 0) t ∧ NT S 60 (τ 0) t) ∨ (S.length ≤ t ∧ NT S 3 (σ 0) t ∧ NT S 60 (τ 0) t) := by
    rcases q4.2 with e | e
    · rcases r2 with r2 | ⟨t', b1, b2, b3, b4, b5⟩
      · rw [r2] at e; cases e
      · have : t' = t := by
          have := b1.symm.trans e
          simp only [Value.ref.injEq] at this
          exact this
        subst this
        exact Or.inl ⟨b3, b4, b5⟩
    · exact Or.inr ⟨by omega, NT_new a2.2.1 (by omega), NT_new a3.2.1 (by omega)⟩
  have hn := a2.1
  have hRN : RN (v_up V 1 1 0) 1 (v_uf σ 6 0) := RN_g hn ⟨rfl, hn.1.2.1, hn.1.2.2.1, hn.1.2.2.2.1, hn.1.2.2.2.2.1, hn.1.2.2.2.2.2.1, hn.1.2.2.2.2.2.2⟩ (fun i hi => by rw [v_up_ne (by decide), v_uf_ne (by omega)]; exact hn.2.1 i hi) (fun i hi => by rw [v_up_ne (by decide), v_uf_ne (by omega)]; exact hn.2.2.1 i hi) (fun k a b => v_up_ne (by omega)) (fun j a b => v_uf_ne (by omega)) rfl
  have hR1 := RS_n a2 hRN (fun k hk => v_up_ne (by omega)) rfl rfl hs.1 rfl hs.2 (fun j hj => v_uf_ne (by omega))
  have f : ∀ k, k ≠ 1 → k < S.length → k ≠ 115 → (k < t ∨ t + 6 < k) → V' k = V k := fun k a b c d => (q5 k c b d).trans (v_up_ne a)
  have hasg := asg_rd hS r1
  refine ⟨RS_rd (t := t) hR1 (Or.inl rfl) hS r1 (fun k a b => q5 k (by omega) (by omega) (by omega)) (fun k a b c => q5 k (by omega) b c) ?_, RS_rd (t := t) a3 (Or.inr rfl) hS r1 (fun k a b => f k (by omega) (by omega) (by omega) (by omega)) (fun k a b c => f k (by omega) b (by omega) c) ?_, ?_, ?_, ClF_v a1 hS (by decide), hS, ⟨lf, SV_ce hS (by decide) s1⟩, ⟨xs, SV_ce hS (by decide) x1, x2, fun v hv => hasg _ _ (x3 v hv)⟩, fun k a b c => f k a (by omega) c (by omega)⟩
  · rcases hNT with hq | hq
    · exact Or.inl ⟨hq.1, hq.2.1⟩
    · exact Or.inr hq.1
  · rcases hNT with hq | hq
    · exact Or.inl ⟨hq.1, hq.2.2⟩
    · exact Or.inr hq.1
  · intro ta hc
    have h3 : NT S 3 (σ 0) t := by
      rcases hNT with hq | hq
      · exact hq.2.1
      · exact hq.2.1
    exact h3 ta (SV_cf hS (by decide) (by omega) hc)
  · intro ta hc
    have h3 : NT S 60 (τ 0) t := by
      rcases hNT with hq | hq
      · exact hq.2.2
      · exact hq.2.2
    exact h3 ta (SV_cf hS (by decide) (by omega) hc)
end
section
/-! pairs of calls: text -/
section
variable {X : Nat → List Int32} {u w cnt : Nat} {S : m_H} {V : v_V}
set_option maxRecDepth 100000 in
set_option maxHeartbeats 4000000 in
theorem pr_text (hR : RR cnt u w S V) (hcn : cnt < 70)  : PR X True 71 124 [.ref 0] [.ref 170] cnt u w S V := by
  have hR2 := RR_le hR (Nat.le_succ cnt)
  obtain ⟨tl, hC, hM, hP, hZ⟩ := hR
  have hC0 := hC
  have hM0 := hM
  have hP0 := hP
  obtain ⟨c1, c2, c3, c4, c5, c6, c7, c8⟩ := hC
  obtain ⟨m1, -, -, m4, m5, m6⟩ := hM
  obtain ⟨p1, p2, p3, p4⟩ := hP
  obtain ⟨n1, n2, n3, n4⟩ := c2.1
  have hsz := p1.1
  have hsl : S.length ≤ 193 + 12 * cnt ∧ 193 ≤ S.length := ⟨hZ.2.1, hZ.1⟩
  obtain ⟨z, hz⟩ : ∃ z : Nat, V 171 6 = (z : Int) := ⟨(V 171 6).toNat, by omega⟩
  obtain ⟨a, ha⟩ : ∃ a : Nat, V 171 0 = (a : Int) := ⟨(V 171 0).toNat, by omega⟩
  have hz160 : z ≤ 160 := by omega
  have ha8 : a ≤ 8 := by omega
  obtain ⟨ta, t1, t2, t3, t4⟩ := c2.2.1
  obtain ⟨tp, tv, r1, r2⟩ := c4
  have e : pTx (V 2) z = pTx (fun i => V 171 (10 + i)) z := pTx_g9 (fun i hi => n2 i (by omega))
  have hbm : ∀ i, i < z → 0 ≤ V 171 (10 + i) ∧ V 171 (10 + i) ≤ 255 := fun i hi => p1.2.1 i (by omega)
  have hb : ∀ i, i < z → 0 ≤ V 2 i ∧ V 2 i ≤ 255 := fun i hi => by
    have h5 : V 2 i = V 171 (10 + i) := n2 i (by omega)
    rw [h5]
    exact hbm i hi
  have hv : tv = .null ∨ ∃ t, tv = .ref t ∧ 193 ≤ t ∧ TxS S t := by
    rcases r2 with h | ⟨t, b1, b2, b3, -⟩
    · exact Or.inl h
    · exact Or.inr ⟨t, b1, b2, b3⟩
  have hs35 : V 171 3 ≤ 20 ∧ V 171 5 ≤ 5 := by omega
  intro K hK
  refine y_Rm (D' := 24) (cc_text (tc := a) (z := z) c1 t1 t2 (n1.2.1.trans ha) ha8 (n1.1.trans hz) r1 (by omega) hv hz160 hb (fun g1 => ?_) (fun g1 t l S' V' q1 q2 q3 q4 q5 q6 q7 q8 q9 => ?_) (fun g1 t q S' V' q1 q2 q3 q4 q5 q6 q7 q8 q9 => ?_)) (by decide)
  · refine hK _ _ _ _ _ m1 (fun K2 h2 => y_Rm (D' := 23) (ct_text m1 ha ha8 hz hz160 hbm ?_ ?_ ?_) (by decide))
    · intro _
      exact h2 _ _ _ _ _ hR2 (fun _ => rfl)
    · intro l V' j1
      exfalso; omega
    · intro q V' j1
      exfalso; omega
  · obtain ⟨d1, d2, d3, d4, d5, d6, ⟨lf, d7⟩, ⟨xs, x1, x2, x3⟩, d9⟩ := RC_rd hC0 hs35 hZ.1 r1 r2 q4 q5 q9
    have hta : ce S' 3 22 ta := SV_ce d6 (by decide) t1
    have hS3 : SQ 3 S' (S'.set 3 (22, ta.set a (.ref t))) := SQ_set hta (by decide)
    have hTO : TO l := pTx_TO hz160 q1 q3
    have hRN : RN (v_up V' 1 3 ((a : Int) + 1)) 1 (v_uf (v_uf (V 171) 6 0) 0 ((a : Int) + 1)) := RN_g d1.1 ⟨d1.1.1.1, rfl, d1.1.1.2.2.1, d1.1.1.2.2.2.1, d1.1.1.2.2.2.2.1, d1.1.1.2.2.2.2.2.1, d1.1.1.2.2.2.2.2.2⟩ (fun i hi => by rw [v_up_ne (by decide), v_uf_ne (by omega)]; exact d1.1.2.1 i hi) (fun i hi => by rw [v_up_ne (by decide), v_uf_ne (by omega)]; exact d1.1.2.2.1 i hi) (fun k x y => v_up_ne (by omega)) (fun j x y => v_uf_ne (by omega)) rfl
    have hRT : RT (S'.set 3 (22, ta.set a (.ref t))) (v_up V' 1 3 ((a : Int) + 1)) 1 (v_uf (v_uf (V 171) 6 0) 0 ((a : Int) + 1)) (fun i => if i = a then l else tl i) := by
      obtain ⟨ta2, u1, u2, u3, u4⟩ := d1.2.1
      have e9 : ta2 = ta := by
        have e := u1.2.symm.trans hta.2
        simp only [Option.some.injEq, Prod.mk.injEq] at e
        exact e.2
      subst e9
      refine ⟨ta2.set a (.ref t), ce_eq hta, by rw [List.length_set]; exact u2, fun v hv9 => ?_, fun i hi => ?_⟩
      · rcases List.mem_or_eq_of_mem_set hv9 with h7 | h7
        · exact hS3.2 _ _ (u3 v h7)
        · rw [h7]; exact Or.inr ⟨t, _, rfl, (TxS_q hS3 (by decide) q4.1 q6).1⟩
      · have hi2 : (i : Int) < (a : Int) + 1 := hi
        by_cases hia : i = a
        · subst hia
          refine ⟨t, ?_, q4.1, TxS_q hS3 (by decide) q4.1 q6, ?_⟩
          · rw [m_nth_set, if_pos rfl, m_nth_eq, List.getElem?_eq_getElem (by omega)]
            rfl
          · show CT _ t (if i = i then l else tl i)
            rw [if_pos rfl]
            exact CT_hi (fun k hk => v_up_ne (by omega)) q4.1 q2
        · obtain ⟨t', b1, b2, b3, b4⟩ := u4 i (by show (i : Int) < V 171 0; omega)
          refine ⟨t', by rw [m_nth_set, if_neg hia]; exact b1, b2, TxS_q hS3 (by decide) b2 b3, ?_⟩
          show CT _ t' (if i = a then l else tl i)
          rw [if_neg hia]
          exact CT_hi (fun k hk => v_up_ne (by omega)) b2 b4
    have hRS1 : RS (S'.set 3 (22, ta.set a (.ref t))) (v_up V' 1 3 ((a : Int) + 1)) 1 (v_uf (v_uf (V 171) 6 0) 0 ((a : Int) + 1)) (fun i => if i = a then l else tl i) := ⟨hRN, hRT, RW_fr d1.2.2.1 hS3 (by decide) (fun k _ _ _ _ hk _ => v_up_ne (by omega)) (Int.le_refl _) (fun j _ i _ => v_uf_ne (by omega)), RA_fr d1.2.2.2 hS3 (by decide) (fun k _ _ _ _ hk _ => v_up_ne (by omega)) (Int.le_refl _) (fun j _ i _ => v_uf_ne (by omega))⟩
    have hRS2 : RS (S'.set 3 (22, ta.set a (.ref t))) (v_up V' 1 3 ((a : Int) + 1)) 58 (V 172) (fun i => if i = a then l else tl i) := RS_tl (RS_x d2 hS3 (by decide) (fun k _ _ => v_up_ne (by omega)) (fun k _ _ => v_up_ne (by omega))) (fun i hi => if_neg (by omega))
    have f : ∀ k, k ≠ 1 → k < 193 → k ≠ 115 → v_up V' 1 3 ((a : Int) + 1) k = V k := fun k p q r => (v_up_ne p).trans (d9 k p q r)
    have hC1 : RC (S'.set 3 (22, ta.set a (.ref t))) (v_up V' 1 3 ((a : Int) + 1)) (v_uf (v_uf (V 171) 6 0) 0 ((a : Int) + 1)) (V 172) (fun i => if i = a then l else tl i) := ⟨cl_set d5 (by decide), hRS1, hRS2, ⟨_, _, ce_ne q7 (by decide), Or.inl rfl⟩, ⟨⟨lf, ce_ne d7 (by decide)⟩, ⟨xs, ce_ne x1 (by decide), x2, fun v hv => hS3.2 _ _ (x3 v hv)⟩, (Se_V c5 (fun k hk => f k (by omega) (by omega) (by omega))).2.2⟩, by rw [f 8 (by decide) (by decide) (by decide)]; exact c6, by rw [f 65 (by decide) (by decide) (by decide)]; exact c7, by rw [f 0 (by decide) (by decide) (by decide)]; exact c8⟩
    have m1b := MdS_v (MdS_v m1 d6 (by decide)) (SV_set 3 S' (22, ta.set a (.ref t))) (by decide)
    have hM1 := RM_fr hM0 m1b (fun k p q => f k (by omega) (by omega) (by omega))
    have f171 : v_up V' 1 3 ((a : Int) + 1) 171 = V 171 := f 171 (by decide) (by decide) (by decide)
    refine hK _ _ _ _ _ m1b (fun K2 h2 => y_Rm (D' := 23) (ct_text (V := v_up V' 1 3 ((a : Int) + 1)) m1b (by rw [f171]; exact ha) ha8 (by rw [f171]; exact hz) hz160 (by rw [f171]; exact hbm) ?_ ?_ ?_) (by decide))
    · intro j1; exfalso; omega
    · rw [f171]
      intro l2 V2 j1 j2 j3 j4 j5 j6
      have el := q1.symm.trans (e.trans j2)
      simp only [Prod.mk.injEq, Option.some.injEq, and_true] at el
      subst el
      have hM2 : RM (S'.set 3 (22, ta.set a (.ref t))) V2 (v_uf (v_uf (V 171) 6 0) 0 ((a : Int) + 1)) (V 172) (fun i => if i = a then l else tl i) (V 0 2) := by
        obtain ⟨b1, b2, b3, b4, b5, b6⟩ := hM1
        refine ⟨b1, j6, (j5.1 172 (by decide) (by decide) (by decide) (by decide) (by decide) (by decide) (by decide)).trans b3, fun i hi => ?_, by rw [j5.2.1 40 (by decide)]; exact b5, by rw [j5.2.1 3 (by decide)]; exact b6⟩
        have hi2 : (i : Int) < (a : Int) + 1 := hi
        by_cases hia : i = a
        · subst hia
          show MT V2 i (if i = i then l else tl i)
          rw [if_pos rfl]
          exact j3
        · show MT V2 i (if i = a then l else tl i)
          rw [if_neg hia]
          exact MT_TX (b4 i (by omega)) j5 hia (p4 i (by omega))
      have hso : SO cnt (v_uf (v_uf (V 171) 6 0) 0 ((a : Int) + 1)) := SO_t p1 ⟨by show 0 ≤ (a : Int) + 1 ∧ (a : Int) + 1 ≤ 8; omega, hsz.2.1, hsz.2.2.1, hsz.2.2.2.1, hsz.2.2.2.2.1, hsz.2.2.2.2.2.1, by show (0 : Int) ≤ 0 ∧ (0 : Int) ≤ 160; decide⟩ (fun j p q => (v_uf_ne (by omega)).trans (v_uf_ne q)) (by show V 171 0 ≤ (a : Int) + 1; omega)
      have hP9 : RP (cnt + 1) (v_uf (v_uf (V 171) 6 0) 0 ((a : Int) + 1)) (V 172) (fun i => if i = a then l else tl i) := ⟨SO_le hso (Nat.le_succ cnt), SO_le p2 (Nat.le_succ cnt), by show V 172 0 ≤ (a : Int) + 1; omega, fun i hi => by
        have hi2 : (i : Int) < (a : Int) + 1 := hi
        show TO (if i = a then l else tl i)
        split
        · exact hTO
        · exact p4 i (by omega)⟩
      exact h2 _ _ _ _ _ (RR_mk hC1 hM2 (fun k hk => j5.1 k (by omega) (by omega) (by omega) (by omega) (by omega) (by omega) (by omega)) (congrFun (f 0 (by decide) (by decide) (by decide)) 2) hP9 (RZ_x (a := 7) (b := 209) hZ (by rw [List.length_set]; have := d6.2; omega) (by decide) (by decide))) (fun _ => rfl)
    · rw [f171]
      intro q V2 j1 j2
      have el := q1.symm.trans (e.trans j2)
      simp at el
  · obtain ⟨d1, d2, d3, d4, d5, d6, ⟨lf, d7⟩, d8, d9⟩ := RC_rd hC0 hs35 hZ.1 r1 r2 q4 q5 q9
    have f : ∀ k, k ≠ 1 → k < 193 → k ≠ 115 → V' k = V k := d9
    have hC1 : RC S' V' (v_uf (V 171) 6 0) (V 172) tl := ⟨d5, d1, d2, ⟨_, _, q7, Or.inr ⟨t, rfl, q4.1, q6, d3, d4⟩⟩, ⟨⟨lf, d7⟩, d8, (Se_V c5 (fun k hk => f k (by omega) (by omega) (by omega))).2.2⟩, by rw [f 8 (by decide) (by decide) (by decide)]; exact c6, by rw [f 65 (by decide) (by decide) (by decide)]; exact c7, by rw [f 0 (by decide) (by decide) (by decide)]; exact c8⟩
    have m1b := MdS_v m1 d6 (by decide)
    have hM1 := RM_fr hM0 m1b (fun k p q => f k (by omega) (by omega) (by omega))
    have f171 : V' 171 = V 171 := f 171 (by decide) (by decide) (by decide)
    refine hK _ _ _ _ _ m1b (fun K2 h2 => y_Rm (D' := 23) (ct_text (V := V') m1b (by rw [f171]; exact ha) ha8 (by rw [f171]; exact hz) hz160 (by rw [f171]; exact hbm) ?_ ?_ ?_) (by decide))
    · intro j1; exfalso; omega
    · rw [f171]
      intro l2 V2 j1 j2
      have el := q1.symm.trans (e.trans j2)
      simp at el
    · rw [f171]
      intro q9' V2 j1 j2 j5 j6 j7
      have el := q1.symm.trans (e.trans j2)
      simp only [Prod.mk.injEq, true_and] at el
      subst el
      have hM2 : RM S' V2 (v_uf (V 171) 6 0) (V 172) tl (V 0 2) := by
        obtain ⟨b1, b2, b3, b4, b5, b6⟩ := hM1
        refine ⟨b1, j6, (j5.1 172 (by decide) (by decide) (by decide) (by decide) (by decide) (by decide) (by decide)).trans b3, fun i hi => ?_, by rw [j5.2.1 40 (by decide)]; exact b5, by rw [j5.2.1 3 (by decide)]; exact b6⟩
        have hi2 : (i : Int) < V 171 0 := hi
        exact MT_TX (b4 i (by omega)) j5 (by omega) (p4 i (by omega))
      have hso : SO cnt (v_uf (V 171) 6 0) := SO_t p1 ⟨hsz.1, hsz.2.1, hsz.2.2.1, hsz.2.2.2.1, hsz.2.2.2.2.1, hsz.2.2.2.2.2.1, by show (0 : Int) ≤ 0 ∧ (0 : Int) ≤ 160; decide⟩ (fun j p q => v_uf_ne q) (Int.le_refl _)
      exact h2 _ _ _ _ _ (RR_mk hC1 hM2 (fun k hk => j5.1 k (by omega) (by omega) (by omega) (by omega) (by omega) (by omega) (by omega)) (congrFun (f 0 (by decide) (by decide) (by decide)) 2) (RP_x hP0 (SO_le hso (Nat.le_succ cnt)) rfl) (RZ_x (a := 7) (b := 209) hZ (by have := d6.2; omega) (by decide) (by decide))) (fun _ => rfl)
end
end
section
/-! lead: what the row of numbers is behind it -/
theorem z_ldR_all {a : Nat} {y m : Int} {f : Nat → Int} (ha : a < 8) (hy : 0 ≤ y ∧ y < 8) (hL : ∀ j : Nat, j < 16 → 0 ≤ f (1552 + 16 * a + j) ∧ f (1552 + 16 * a + j) < 8) : ∀ t : Nat, t ≤ 16 → (∀ j, (j < 200 ∨ 872 ≤ j) → (j < 1552 + 16 * a ∨ 1552 + 16 * a + 16 ≤ j) → z_ldR a y m t f j = f j) ∧ ((∀ j, 200 ≤ j → j < 872 → -2147483648 ≤ f j ∧ f j < 2147483648) → ∀ j, 200 ≤ j → j < 872 → -2147483648 ≤ z_ldR a y m t f j ∧ z_ldR a y m t f j < 2147483648)
  | 0, _ => ⟨fun _ _ _ => rfl, fun h => h⟩
  | t + 1, ht => by
    have ih := z_ldR_all (m := m) ha hy hL t (by omega)
    have hled := (z_ldR_led (m := m) ha hy hL t (by omega)).2 t (by omega)
    by_cases h : m / 2 ^ t % 2 = 1
    · by_cases hc : z_ldR a y m t f (1552 + 16 * a + t) = y
      · rw [z_ldR_0 (fun q => q.2 hc)]
        exact ih
      · have h0 := hL t (by omega)
        have hv : z_ldR a y m t f (1552 + 16 * a + t) = f (1552 + 16 * a + t) := by
          rw [hled]
          exact if_neg (by omega)
        obtain ⟨c, hcc⟩ : ∃ c : Nat, z_ldR a y m t f (1552 + 16 * a + t) = (c : Int) := ⟨(f (1552 + 16 * a + t)).toNat, by omega⟩
        obtain ⟨d, rfl⟩ : ∃ d : Nat, y = (d : Int) := ⟨y.toNat, by omega⟩
        have hcd : (c : Int) ≠ (d : Int) := by omega
        rw [z_ldR_1 h hcc hcd, show ((d : Int)).toNat = d from rfl]
        have hpq : 200 + 84 * c + 4 * t + 4 ≤ 200 + 84 * d + 4 * t ∨ 200 + 84 * d + 4 * t + 4 ≤ 200 + 84 * c + 4 * t := by omega
        refine ⟨fun j h1 h2 => ?_, fun hr j h1 h2 => ?_⟩
        · rw [v_uf_ne (by omega), z_mv_at hpq, if_neg (by omega), if_neg (by omega)]
          exact ih.1 j h1 h2
        · rw [v_uf_ne (by omega), z_mv_at hpq]
          split
          · decide
          · split
            · exact ih.2 hr _ (by omega) (by omega)
            · exact ih.2 hr j h1 h2
    · rw [z_ldR_0 (fun q => h q.1)]
      exact ih
end
section
/-! lead: both sides' numbers behind it -/
theorem ld_RN {V : v_V} {σ : Nat → Int} {cnt a : Nat} {y m : Int} (h : RN V 1 σ) (hs : SO cnt σ) (ha : a < 8) (hy : 0 ≤ y ∧ y < 8) : RN (z_ldC a y m 16 V) 1 (z_ldR a y m 16 σ) := by
  have h4 := h.2.2.2
  have hR : LdR 8 V σ := ⟨fun b hb t ht => (h4 b hb).2.2.2.2.2.1 t ht, fun b hb p hp => (h4 b hb).2.2.2.2.2.2.1 p hp⟩
  have hLs : ∀ j : Nat, j < 16 → 0 ≤ σ (1552 + 16 * a + j) ∧ σ (1552 + 16 * a + j) < 8 := fun j hj => by
    have := hs.2.2.2.1 a ha j hj
    omega
  have hLc : ∀ t : Nat, t < 16 → 0 ≤ V (10 + 6 * a + 1) t ∧ V (10 + 6 * a + 1) t < (8 : Nat) := fun t ht => by
    rw [hR.1 a ha t ht]
    exact hLs t ht
  have hK := ld_lock (m := m) (Nat.le_refl 8) ha hy hR hLc 16 (Nat.le_refl 16)
  have hA := (z_ldR_all (m := m) ha hy hLs 16 (Nat.le_refl 16)).1
  have f : ∀ k, k ≠ 10 + 6 * a + 1 → (∀ i : Nat, k ≠ 10 + 6 * i + 3) → z_ldC a y m 16 V k = V k := fun k p q => z_ldC_fr k p q 16
  refine RN_b h ?_ (fun k hk => f k (by omega) (fun i => by omega)) (fun j hj => hA j (by omega) (by omega)) (fun b hb => ?_)
  · unfold N7
    rw [f 1 (by omega) (fun i => by omega), hA 0 (by omega) (by omega), hA 1 (by omega) (by omega), hA 2 (by omega) (by omega), hA 3 (by omega) (by omega), hA 4 (by omega) (by omega), hA 5 (by omega) (by omega), hA 6 (by omega) (by omega)]
    exact h.1
  · obtain ⟨d1, d2, d3, d4, d5, d6, d7, d8⟩ := h4 b hb
    unfold BxN
    rw [f (10 + 6 * b) (by omega) (fun i => by omega), f (10 + 6 * b + 5) (by omega) (fun i => by omega), hA 1 (by omega) (by omega), hA (170 + b) (by omega) (by omega), hA (178 + b) (by omega) (by omega), hA (186 + b) (by omega) (by omega), hA (872 + b) (by omega) (by omega)]
    exact ⟨d1, d2, d3, d4, d5, fun t ht => hK.1 b hb t ht, fun p hp => hK.2 b hb p hp, fun p hp => by rw [hA _ (by omega) (by omega)]; exact d8 p hp⟩
theorem ld_SO {σ : Nat → Int} {cnt a : Nat} {y m : Int} (hs : SO cnt σ) (ha : (a : Int) < σ 1) (hy : 0 ≤ y ∧ y < σ 1) : SO cnt (z_ldR a y m 16 σ) := by
  have hsz := hs.1
  have ha8 : a < 8 := by omega
  have hLs : ∀ j : Nat, j < 16 → 0 ≤ σ (1552 + 16 * a + j) ∧ σ (1552 + 16 * a + j) < 8 := fun j hj => by
    have := hs.2.2.2.1 a ha8 j hj
    omega
  have hA := z_ldR_all (m := m) ha8 (show 0 ≤ y ∧ y < 8 by omega) hLs 16 (Nat.le_refl 16)
  have hled := (z_ldR_led (m := m) ha8 (show 0 ≤ y ∧ y < 8 by omega) hLs 16 (Nat.le_refl 16)).2
  have hrg := hA.2 (fun j h1 h2 => by
    have o := (hs.2.2.1 ((j - 200) / 84) (by omega)).2.2.2.2.1 ((j - 200) % 84) (by omega)
    have e : 200 + 84 * ((j - 200) / 84) + (j - 200) % 84 = j := by omega
    unfold zm at o
    rw [e] at o
    exact o)
  have e := hA.1
  refine SO_b hs ?_ (fun j hj => e j (by omega) (by omega)) (by rw [e 1 (by omega) (by omega)]; exact Int.le_refl _) (e 2 (by omega) (by omega)) (e 3 (by omega) (by omega)) (e 5 (by omega) (by omega)) (fun b hb => ?_) (fun b hb t ht => ?_)
  · unfold O7
    rw [e 0 (by omega) (by omega), e 1 (by omega) (by omega), e 2 (by omega) (by omega), e 3 (by omega) (by omega), e 4 (by omega) (by omega), e 5 (by omega) (by omega), e 6 (by omega) (by omega)]
    exact hs.1
  · obtain ⟨o1, o2, o3, o4, o5, o6⟩ := hs.2.2.1 b hb
    unfold Ob
    rw [e (170 + b) (by omega) (by omega), e (178 + b) (by omega) (by omega), e (186 + b) (by omega) (by omega), e (872 + b) (by omega) (by omega), e 1 (by omega) (by omega), e 0 (by omega) (by omega)]
    refine ⟨o1, o2, o3, o4, fun p hp => hrg (200 + 84 * b + p) (by omega) (by omega), fun p hp => ?_⟩
    show -2147483648 ≤ z_ldR a y m 16 σ (880 + 84 * b + p) ∧ z_ldR a y m 16 σ (880 + 84 * b + p) < 2147483648
    rw [e _ (by omega) (by omega)]
    exact o6 p hp
  · have o := hs.2.2.2.1 b hb t ht
    rw [e 1 (by omega) (by omega)]
    by_cases hb2 : b = a
    · subst hb2
      rw [hled t ht]
      split
      · omega
      · exact o
    · rw [e _ (by omega) (by omega)]
      exact o
end
section
/-! pairs of calls: lead -/
theorem z_ldC_hi {a : Nat} {y m : Int} {V : v_V} (ha : a < 8) (hy : 0 ≤ y ∧ y < 8) (hL : ∀ j : Nat, j < 16 → 0 ≤ V (10 + 6 * a + 1) j ∧ V (10 + 6 * a + 1) j < 8) (k : Nat) (hk : 58 ≤ k) : ∀ t : Nat, t ≤ 16 → z_ldC a y m t V k = V k
  | 0, _ => rfl
  | t + 1, ht => by
    have ih := z_ldC_hi (m := m) ha hy hL k hk t (by omega)
    have hled := z_ldC_led (a := a) (V := V) (y := y) (m := m) t t
    rw [if_neg (by omega)] at hled
    have h0 := hL t (by omega)
    by_cases h : m / 2 ^ t % 2 = 1
    · obtain ⟨c, hc⟩ : ∃ c : Nat, z_ldC a y m t V (10 + 6 * a + 1) t = (c : Int) := ⟨(V (10 + 6 * a + 1) t).toNat, by omega⟩
      by_cases hcy : (c : Int) = y
      · rw [z_ldC_1 h (hc.trans hcy), v_up_ne (by omega)]
        exact ih
      · rw [z_ldC_2 h hc hcy, v_up_ne (by omega), v_ur_ne (by omega), v_ur_ne (by omega)]
        exact ih
    · rw [z_ldC_0 h]
      exact ih
section
variable {X : Nat → List Int32} {u w cnt : Nat} {S : m_H} {V : v_V}
set_option maxRecDepth 100000 in
set_option maxHeartbeats 4000000 in
theorem pr_lead (hR : RR cnt u w S V) {x : Int} (hx1 : (-2147483648 ≤ x ∧ x < 2147483648)) {y : Int} (hy1 : (-2147483648 ≤ y ∧ y < 2147483648)) {q : Int} (hq1 : (-2147483648 ≤ q ∧ q < 2147483648)) : PR X True 80 146 [.ref 0, iv x, iv y, iv q] [.ref 170, iv x, iv y, iv q] cnt u w S V := by
  have hR2 := RR_le hR (Nat.le_succ cnt)
  obtain ⟨tl, hC, hM, hP, hZ⟩ := hR
  have hC0 := hC
  have hM0 := hM
  have hP0 := hP
  obtain ⟨c1, c2, c3, c4, c5, c6, c7, c8⟩ := hC
  obtain ⟨m1, -, -, m4, m5, m6⟩ := hM
  obtain ⟨p1, p2, p3, p4⟩ := hP
  obtain ⟨n1, n2, n3, n4⟩ := c2.1
  have hsz := p1.1
  have e7 : V 1 7 = V 171 2 := n1.2.2.2.1
  have e5 : V 1 5 = V 171 1 := n1.2.2.1
  have hLe : ∀ b : Nat, b < 8 → ∀ t : Nat, t < 16 → V (10 + 6 * b + 1) t = V 171 (1552 + 16 * b + t) := fun b hb t ht => (n4 b hb).2.2.2.2.2.1 t ht
  have hRe : ∀ t : Nat, t < 6 → V 5 t = V 171 (1680 + t) := fun t ht => n3 t ht
  have hN0 : ∀ b : Nat, (b : Int) < V 171 1 → V (10 + 6 * b) 0 = (b : Int) := fun b hb => (n4 b (by omega)).1 hb
  have hLr : ∀ b : Nat, (b : Int) < V 171 1 → ∀ t : Nat, t < 16 → 0 ≤ V 171 (1552 + 16 * b + t) ∧ V 171 (1552 + 16 * b + t) < V 171 1 := fun b hb t ht => by have := p1.2.2.2.1 b (by omega) t ht; exact ⟨this.1, this.2.2 hb⟩
  have hLc : ∀ b : Nat, (b : Int) < V 1 5 → ∀ t : Nat, t < 16 → 0 ≤ V (10 + 6 * b + 1) t ∧ V (10 + 6 * b + 1) t < V 1 5 := fun b hb t ht => by rw [hLe b (by omega) t ht, e5]; exact hLr b (by omega) t ht
  have hRr : ∀ t : Nat, t < 6 → 0 ≤ V 171 (1680 + t) ∧ V 171 (1680 + t) ≤ 7 := fun t ht => by have := p1.2.2.2.2.1 t ht; exact ⟨this.1, this.2.1⟩
  have hRc : ∀ t : Nat, t < 6 → 0 ≤ V 5 t ∧ V 5 t ≤ 7 := fun t ht => by rw [hRe t ht]; exact hRr t ht
  have hEA : (∃ b : Nat, (b : Int) < V 1 5 ∧ (b : Int) ≠ x ∧ ∃ t : Nat, t < 16 ∧ V (10 + 6 * b + 1) t = x) → (∀ b : Nat, (b : Int) < V 171 1 → (b : Int) ≠ x → ∀ t : Nat, t < 16 → V 171 (1552 + 16 * b + t) ≠ x) → False := by
    rintro ⟨b, b1, b2, t, b3, b4⟩ hA
    exact hA b (by omega) b2 t b3 ((hLe b (by omega) t b3).symm.trans b4)
  have hAE : (∀ b : Nat, (b : Int) < V 1 5 → (b : Int) ≠ x → ∀ t : Nat, t < 16 → V (10 + 6 * b + 1) t ≠ x) → (∃ b : Nat, (b : Int) < V 171 1 ∧ (b : Int) ≠ x ∧ ∃ t : Nat, t < 16 ∧ V 171 (1552 + 16 * b + t) = x) → False := by
    rintro hA ⟨b, b1, b2, t, b3, b4⟩
    exact hA b (by omega) b2 t b3 ((hLe b (by omega) t b3).trans b4)
  have hIA : (∃ t : Nat, (t : Int) < V 1 7 ∧ V 5 t = y) → (∀ t : Nat, (t : Int) < V 171 2 → V 171 (1680 + t) ≠ y) → False := by
    rintro ⟨t, b1, b2⟩ hA
    exact hA t (by omega) ((hRe t (by omega)).symm.trans b2)
  have hAI : (∀ t : Nat, (t : Int) < V 1 7 → V 5 t ≠ y) → (∃ t : Nat, (t : Int) < V 171 2 ∧ V 171 (1680 + t) = y) → False := by
    rintro hA ⟨t, b1, b2⟩
    exact hA t (by omega) ((hRe t (by omega)).trans b2)
  have hz : 0 ≤ y ∧ y < V 1 5 → z_na (V (10 + 6 * y.toNat + 1)) (V (10 + 6 * y.toNat) 0) 16 = z_na (fun t : Nat => V 171 (1552 + 16 * y.toNat + t)) y 16 := fun g => by
    rw [hN0 y.toNat (by omega), show ((y.toNat : Nat) : Int) = y by omega]
    exact z_na_c (fun i hi => hLe y.toNat (by omega) i hi)
  intro K hK
  refine y_Rm (D' := 4) (cs_lead c1 hx1 hy1 hq1 (by omega) hLc (fun b hb => hN0 b (by omega)) (by omega) hRc (fun g1 g2 => ?_) (fun g1 g2 => ?_) (fun g1 g2 => ?_) (fun g1 g2 g3 gX g4 => ?_) (fun g1 g2 g3 gX g4 g5 => ?_) (fun g1 g2 g3 gX g4 g5 gI g6 => ?_) (fun g1 g2 g3 gX g4 g5 gI g6 g7 => ?_) (fun g1 g2 g3 gX g4 g5 gI g6 g7 => ?_) (fun g1 g2 g3 => ?_)) (by decide)
  · have f171 : V 171 = V 171 := rfl
    refine hK _ _ _ _ _ m1 (fun K2 h2 => y_Rm (D' := 4) (ms_lead (V := V) m1 hx1 hy1 hq1 (by rw [f171]; exact hsz.2.1) (by rw [f171]; exact hLr) (by rw [f171]; exact hsz.2.2.1) (by rw [f171]; exact hRr) ?_ ?_ ?_ ?_ ?_ ?_ ?_ ?_ ?_) (by decide))
    · intro j1; exact h2 _ _ _ _ _ hR2 (fun _ => rfl)
    · intro j1 j2 j3 j4 jX j5; exfalso; clear hEA hAE hIA hAI hLe hLr hLc hRr hRc hRe hN0 hz jX; omega
    · intro j1 j2 j3 j4 jX j5; exfalso; clear hEA hAE hIA hAI hLe hLr hLc hRr hRc hRe hN0 hz jX; omega
    · intro j1 j2 j3 j4 jI j5; exfalso; clear hEA hAE hIA hAI hLe hLr hLc hRr hRc hRe hN0 hz jI; omega
    · intro j1 j2 j3 j4 jI j5 j6; exfalso; clear hEA hAE hIA hAI hLe hLr hLc hRr hRc hRe hN0 hz jI; omega
    · intro j1 j2 j3 j4 jI j5 j6 jX j7; exfalso; clear hEA hAE hIA hAI hLe hLr hLc hRr hRc hRe hN0 hz jX jI; omega
    · intro j1 j2 j3 j4 jI j5 j6 jX j7; exfalso; clear hEA hAE hIA hAI hLe hLr hLc hRr hRc hRe hN0 hz jX jI; omega
    · intro j1 j2 j3; exfalso; clear hEA hAE hIA hAI hLe hLr hLc hRr hRc hRe hN0 hz; omega
    · intro j1 j2; exfalso; clear hEA hAE hIA hAI hLe hLr hLc hRr hRc hRe hN0 hz; omega
  · have f171 : V 171 = V 171 := rfl
    refine hK _ _ _ _ _ m1 (fun K2 h2 => y_Rm (D' := 4) (ms_lead (V := V) m1 hx1 hy1 hq1 (by rw [f171]; exact hsz.2.1) (by rw [f171]; exact hLr) (by rw [f171]; exact hsz.2.2.1) (by rw [f171]; exact hRr) ?_ ?_ ?_ ?_ ?_ ?_ ?_ ?_ ?_) (by decide))
    · intro j1; exact h2 _ _ _ _ _ hR2 (fun _ => rfl)
    · intro j1 j2 j3 j4 jX j5; exfalso; clear hEA hAE hIA hAI hLe hLr hLc hRr hRc hRe hN0 hz jX; omega
    · intro j1 j2 j3 j4 jX j5; exfalso; clear hEA hAE hIA hAI hLe hLr hLc hRr hRc hRe hN0 hz jX; omega
    · intro j1 j2 j3 j4 jI j5; exfalso; clear hEA hAE hIA hAI hLe hLr hLc hRr hRc hRe hN0 hz jI; omega
    · intro j1 j2 j3 j4 jI j5 j6; exfalso; clear hEA hAE hIA hAI hLe hLr hLc hRr hRc hRe hN0 hz jI; omega
    · intro j1 j2 j3 j4 jI j5 j6 jX j7; exfalso; clear hEA hAE hIA hAI hLe hLr hLc hRr hRc hRe hN0 hz jX jI; omega
    · intro j1 j2 j3 j4 jI j5 j6 jX j7; exfalso; clear hEA hAE hIA hAI hLe hLr hLc hRr hRc hRe hN0 hz jX jI; omega
    · intro j1 j2 j3; exfalso; clear hEA hAE hIA hAI hLe hLr hLc hRr hRc hRe hN0 hz; omega
    · intro j1 j2; exfalso; clear hEA hAE hIA hAI hLe hLr hLc hRr hRc hRe hN0 hz; omega
  · have f171 : V 171 = V 171 := rfl
    refine hK _ _ _ _ _ m1 (fun K2 h2 => y_Rm (D' := 4) (ms_lead (V := V) m1 hx1 hy1 hq1 (by rw [f171]; exact hsz.2.1) (by rw [f171]; exact hLr) (by rw [f171]; exact hsz.2.2.1) (by rw [f171]; exact hRr) ?_ ?_ ?_ ?_ ?_ ?_ ?_ ?_ ?_) (by decide))
    · intro j1; exfalso; clear hEA hAE hIA hAI hLe hLr hLc hRr hRc hRe hN0 hz; omega
    · intro j1 j2 j3 j4 jX j5; exfalso; clear hEA hAE hIA hAI hLe hLr hLc hRr hRc hRe hN0 hz jX; omega
    · intro j1 j2 j3 j4 jX j5; exfalso; clear hEA hAE hIA hAI hLe hLr hLc hRr hRc hRe hN0 hz jX; omega
    · intro j1 j2 j3 j4 jI j5; exfalso; clear hEA hAE hIA hAI hLe hLr hLc hRr hRc hRe hN0 hz jI; omega
    · intro j1 j2 j3 j4 jI j5 j6; exfalso; clear hEA hAE hIA hAI hLe hLr hLc hRr hRc hRe hN0 hz jI; omega
    · intro j1 j2 j3 j4 jI j5 j6 jX j7; exfalso; clear hEA hAE hIA hAI hLe hLr hLc hRr hRc hRe hN0 hz jX jI; omega
    · intro j1 j2 j3 j4 jI j5 j6 jX j7; exfalso; clear hEA hAE hIA hAI hLe hLr hLc hRr hRc hRe hN0 hz jX jI; omega
    · intro j1 j2 j3; exfalso; clear hEA hAE hIA hAI hLe hLr hLc hRr hRc hRe hN0 hz; omega
    · intro j1 j2; exact h2 _ _ _ _ _ hR2 (fun _ => rfl)
  · have f171 : V 171 = V 171 := rfl
    refine hK _ _ _ _ _ m1 (fun K2 h2 => y_Rm (D' := 4) (ms_lead (V := V) m1 hx1 hy1 hq1 (by rw [f171]; exact hsz.2.1) (by rw [f171]; exact hLr) (by rw [f171]; exact hsz.2.2.1) (by rw [f171]; exact hRr) ?_ ?_ ?_ ?_ ?_ ?_ ?_ ?_ ?_) (by decide))
    · intro j1; exfalso; clear hEA hAE hIA hAI hLe hLr hLc hRr hRc hRe hN0 hz gX; omega
    · intro j1 j2 j3 j4 jX j5; exact h2 _ _ _ _ _ hR2 (fun _ => rfl)
    · intro j1 j2 j3 j4 jX j5; exact (hEA gX jX).elim
    · intro j1 j2 j3 j4 jI j5; exact h2 _ _ _ _ _ hR2 (fun _ => rfl)
    · intro j1 j2 j3 j4 jI j5 j6; exact h2 _ _ _ _ _ hR2 (fun _ => rfl)
    · intro j1 j2 j3 j4 jI j5 j6 jX j7; exact h2 _ _ _ _ _ hR2 (fun _ => rfl)
    · intro j1 j2 j3 j4 jI j5 j6 jX j7; exact (hEA gX jX).elim
    · intro j1 j2 j3; exfalso; clear hEA hAE hIA hAI hLe hLr hLc hRr hRc hRe hN0 hz gX; omega
    · intro j1 j2; exfalso; clear hEA hAE hIA hAI hLe hLr hLc hRr hRc hRe hN0 hz gX; omega
  · have hX8 : x.toNat < 8 := by clear hEA hAE hIA hAI hLe hLr hLc hRr hRc hRe hN0 gX; omega
    have f171 : (z_ldC x.toNat y q 16 V) 171 = V 171 := z_ldC_fr 171 (by clear hEA hAE hIA hAI hLe hLr hLc hRr hRc hRe hN0 gX; omega) (fun i => by omega) 16
    have hy8 : 0 ≤ y ∧ y < 8 := by clear hEA hAE hIA hAI hLe hLr hLc hRr hRc hRe hN0 gX; omega
    have hrn := ld_RN (m := q) c2.1 p1 hX8 hy8
    have hso := ld_SO (m := q) (a := x.toNat) p1 (by clear hEA hAE hIA hAI hLe hLr hLc hRr hRc hRe hN0 gX; omega) (show 0 ≤ y ∧ y < V 171 1 by clear hEA hAE hIA hAI hLe hLr hLc hRr hRc hRe hN0 gX; omega)
    have hA := (z_ldR_all (m := q) hX8 hy8 (fun j hj => by have := p1.2.2.2.1 x.toNat hX8 j hj; exact ⟨this.1, by have := this.2.1; omega⟩) 16 (Nat.le_refl 16)).1
    have hx0 : (x.toNat : Int) = x := by clear hEA hAE hIA hAI hLe hLr hLc hRr hRc hRe hN0 gX; omega
    refine hK _ _ _ _ _ m1 (fun K2 h2 => y_Rm (D' := 4) (ms_lead (V := (z_ldC x.toNat y q 16 V)) m1 hx1 hy1 hq1 (by rw [f171]; exact hsz.2.1) (by rw [f171]; exact hLr) (by rw [f171]; exact hsz.2.2.1) (by rw [f171]; exact hRr) ?_ ?_ ?_ ?_ ?_ ?_ ?_ ?_ ?_) (by decide))
    all_goals try rw [f171]
    · intro j1; exfalso; clear hEA hAE hIA hAI hLe hLr hLc hRr hRc hRe hN0 hz gX; omega
    · intro j1 j2 j3 j4 jX j5; exact (hAE gX jX).elim
    · intro j1 j2 j3 j4 jX j5
      refine h2 _ _ _ _ _ (RR_n hC0 hM0 hP0 hZ hrn (SO_le hso (Nat.le_succ cnt)) (fun k hk => by
        rcases (show 58 ≤ k ∨ k = 0 ∨ k = 8 by omega) with hk2 | rfl | rfl
        · exact z_ldC_hi hX8 hy8 (fun j hj => by rw [hLe x.toNat hX8 j hj]; have := p1.2.2.2.1 x.toNat hX8 j hj; exact ⟨this.1, by have := this.2.1; omega⟩) k hk2 16 (Nat.le_refl 16)
        · exact z_ldC_fr 0 (by omega) (fun i => by omega) 16
        · exact z_ldC_fr 8 (by omega) (fun i => by omega) 16) (hA 0 (by omega) (by omega)) (hA 3 (by omega) (by omega)) (hA 5 (by omega) (by omega)) (fun j hj => hA j (by omega) (by omega)) (v_ur_eq _ _ _) (fun k hk => v_ur_ne hk)) (fun _ => ?_)
      have hbx := hrn.2.2.2 x.toNat hX8
      have h10 : z_ldC x.toNat y q 16 V (10 + 6 * x.toNat) 0 = x := (hbx.1 (by rw [hA 1 (by omega) (by omega), hx0]; exact (by have := g1.2; rw [e5] at this; exact this))).trans hx0
      rw [h10]
      refine z_na_c (fun i hi => ?_)
      rw [v_ur_eq]
      exact (hbx.2.2.2.2.2.1 i hi).symm
    · intro j1 j2 j3 j4 jI j5; exfalso; clear hEA hAE hIA hAI hLe hLr hLc hRr hRc hRe hN0 hz gX jI; omega
    · intro j1 j2 j3 j4 jI j5 j6; exfalso; clear hEA hAE hIA hAI hLe hLr hLc hRr hRc hRe hN0 hz gX jI; omega
    · intro j1 j2 j3 j4 jI j5 j6 jX j7; exfalso; clear hEA hAE hIA hAI hLe hLr hLc hRr hRc hRe hN0 hz gX jX jI; omega
    · intro j1 j2 j3 j4 jI j5 j6 jX j7; exfalso; clear hEA hAE hIA hAI hLe hLr hLc hRr hRc hRe hN0 hz gX jX jI; omega
    · intro j1 j2 j3; exfalso; clear hEA hAE hIA hAI hLe hLr hLc hRr hRc hRe hN0 hz gX; omega
    · intro j1 j2; exfalso; clear hEA hAE hIA hAI hLe hLr hLc hRr hRc hRe hN0 hz gX; omega
  · have f171 : V 171 = V 171 := rfl
    refine hK _ _ _ _ _ m1 (fun K2 h2 => y_Rm (D' := 4) (ms_lead (V := V) m1 hx1 hy1 hq1 (by rw [f171]; exact hsz.2.1) (by rw [f171]; exact hLr) (by rw [f171]; exact hsz.2.2.1) (by rw [f171]; exact hRr) ?_ ?_ ?_ ?_ ?_ ?_ ?_ ?_ ?_) (by decide))
    · intro j1; exfalso; clear hEA hAE hIA hAI hLe hLr hLc hRr hRc hRe hN0 hz gX gI; omega
    · intro j1 j2 j3 j4 jX j5; exact h2 _ _ _ _ _ hR2 (fun _ => rfl)
    · intro j1 j2 j3 j4 jX j5; exfalso; clear hEA hAE hIA hAI hLe hLr hLc hRr hRc hRe hN0 hz gX gI jX; omega
    · intro j1 j2 j3 j4 jI j5; exact h2 _ _ _ _ _ hR2 (fun _ => rfl)
    · intro j1 j2 j3 j4 jI j5 j6; exact h2 _ _ _ _ _ hR2 (fun _ => rfl)
    · intro j1 j2 j3 j4 jI j5 j6 jX j7; exact h2 _ _ _ _ _ hR2 (fun _ => rfl)
    · intro j1 j2 j3 j4 jI j5 j6 jX j7; exact (hIA gI jI).elim
    · intro j1 j2 j3; exfalso; clear hEA hAE hIA hAI hLe hLr hLc hRr hRc hRe hN0 hz gX gI; omega
    · intro j1 j2; exfalso; clear hEA hAE hIA hAI hLe hLr hLc hRr hRc hRe hN0 hz gX gI; omega
  · have hX8 : x.toNat < 8 := by clear hEA hAE hIA hAI hLe hLr hLc hRr hRc hRe hN0 gX gI; omega
    have f171 : (z_ldC x.toNat y q 16 V) 171 = V 171 := z_ldC_fr 171 (by clear hEA hAE hIA hAI hLe hLr hLc hRr hRc hRe hN0 gX gI; omega) (fun i => by omega) 16
    have hy8 : 0 ≤ y ∧ y < 8 := by clear hEA hAE hIA hAI hLe hLr hLc hRr hRc hRe hN0 gX gI; omega
    have hrn := ld_RN (m := q) c2.1 p1 hX8 hy8
    have hso := ld_SO (m := q) (a := x.toNat) p1 (by clear hEA hAE hIA hAI hLe hLr hLc hRr hRc hRe hN0 gX gI; omega) (show 0 ≤ y ∧ y < V 171 1 by clear hEA hAE hIA hAI hLe hLr hLc hRr hRc hRe hN0 gX gI; omega)
    have hA := (z_ldR_all (m := q) hX8 hy8 (fun j hj => by have := p1.2.2.2.1 x.toNat hX8 j hj; exact ⟨this.1, by have := this.2.1; omega⟩) 16 (Nat.le_refl 16)).1
    have hx0 : (x.toNat : Int) = x := by clear hEA hAE hIA hAI hLe hLr hLc hRr hRc hRe hN0 gX gI; omega
    refine hK _ _ _ _ _ m1 (fun K2 h2 => y_Rm (D' := 4) (ms_lead (V := (z_ldC x.toNat y q 16 V)) m1 hx1 hy1 hq1 (by rw [f171]; exact hsz.2.1) (by rw [f171]; exact hLr) (by rw [f171]; exact hsz.2.2.1) (by rw [f171]; exact hRr) ?_ ?_ ?_ ?_ ?_ ?_ ?_ ?_ ?_) (by decide))
    all_goals try rw [f171]
    · intro j1; exfalso; clear hEA hAE hIA hAI hLe hLr hLc hRr hRc hRe hN0 hz gX gI; omega
    · intro j1 j2 j3 j4 jX j5; exfalso; clear hEA hAE hIA hAI hLe hLr hLc hRr hRc hRe hN0 hz gX gI jX; omega
    · intro j1 j2 j3 j4 jX j5; exfalso; clear hEA hAE hIA hAI hLe hLr hLc hRr hRc hRe hN0 hz gX gI jX; omega
    · intro j1 j2 j3 j4 jI j5; exact (hAI gI jI).elim
    · intro j1 j2 j3 j4 jI j5 j6; exfalso; have hzz := hz g2; clear hEA hAE hIA hAI hLe hLr hLc hRr hRc hRe hN0 hz gX gI jI; omega
    · intro j1 j2 j3 j4 jI j5 j6 jX j7; exact (hAE gX jX).elim
    · intro j1 j2 j3 j4 jI j5 j6 jX j7
      refine h2 _ _ _ _ _ (RR_n hC0 hM0 hP0 hZ hrn (SO_le hso (Nat.le_succ cnt)) (fun k hk => by
        rcases (show 58 ≤ k ∨ k = 0 ∨ k = 8 by omega) with hk2 | rfl | rfl
        · exact z_ldC_hi hX8 hy8 (fun j hj => by rw [hLe x.toNat hX8 j hj]; have := p1.2.2.2.1 x.toNat hX8 j hj; exact ⟨this.1, by have := this.2.1; omega⟩) k hk2 16 (Nat.le_refl 16)
        · exact z_ldC_fr 0 (by omega) (fun i => by omega) 16
        · exact z_ldC_fr 8 (by omega) (fun i => by omega) 16) (hA 0 (by omega) (by omega)) (hA 3 (by omega) (by omega)) (hA 5 (by omega) (by omega)) (fun j hj => hA j (by omega) (by omega)) (v_ur_eq _ _ _) (fun k hk => v_ur_ne hk)) (fun _ => ?_)
      have hbx := hrn.2.2.2 x.toNat hX8
      have h10 : z_ldC x.toNat y q 16 V (10 + 6 * x.toNat) 0 = x := (hbx.1 (by rw [hA 1 (by omega) (by omega), hx0]; exact (by have := g1.2; rw [e5] at this; exact this))).trans hx0
      rw [h10]
      refine z_na_c (fun i hi => ?_)
      rw [v_ur_eq]
      exact (hbx.2.2.2.2.2.1 i hi).symm
    · intro j1 j2 j3; exfalso; clear hEA hAE hIA hAI hLe hLr hLc hRr hRc hRe hN0 hz gX gI; omega
    · intro j1 j2; exfalso; clear hEA hAE hIA hAI hLe hLr hLc hRr hRc hRe hN0 hz gX gI; omega
  · have f171 : V 171 = V 171 := rfl
    refine hK _ _ _ _ _ m1 (fun K2 h2 => y_Rm (D' := 4) (ms_lead (V := V) m1 hx1 hy1 hq1 (by rw [f171]; exact hsz.2.1) (by rw [f171]; exact hLr) (by rw [f171]; exact hsz.2.2.1) (by rw [f171]; exact hRr) ?_ ?_ ?_ ?_ ?_ ?_ ?_ ?_ ?_) (by decide))
    · intro j1; exfalso; clear hEA hAE hIA hAI hLe hLr hLc hRr hRc hRe hN0 hz gX gI; omega
    · intro j1 j2 j3 j4 jX j5; exact h2 _ _ _ _ _ hR2 (fun _ => rfl)
    · intro j1 j2 j3 j4 jX j5; exfalso; clear hEA hAE hIA hAI hLe hLr hLc hRr hRc hRe hN0 hz gX gI jX; omega
    · intro j1 j2 j3 j4 jI j5; exact h2 _ _ _ _ _ hR2 (fun _ => rfl)
    · intro j1 j2 j3 j4 jI j5 j6; exact h2 _ _ _ _ _ hR2 (fun _ => rfl)
    · intro j1 j2 j3 j4 jI j5 j6 jX j7; exact h2 _ _ _ _ _ hR2 (fun _ => rfl)
    · intro j1 j2 j3 j4 jI j5 j6 jX j7; exfalso; have hzz := hz g2; clear hEA hAE hIA hAI hLe hLr hLc hRr hRc hRe hN0 hz gX gI jX jI; omega
    · intro j1 j2 j3; exfalso; clear hEA hAE hIA hAI hLe hLr hLc hRr hRc hRe hN0 hz gX gI; omega
    · intro j1 j2; exfalso; clear hEA hAE hIA hAI hLe hLr hLc hRr hRc hRe hN0 hz gX gI; omega
  · have f171 : V 171 = V 171 := rfl
    refine hK _ _ _ _ _ m1 (fun K2 h2 => y_Rm (D' := 4) (ms_lead (V := V) m1 hx1 hy1 hq1 (by rw [f171]; exact hsz.2.1) (by rw [f171]; exact hLr) (by rw [f171]; exact hsz.2.2.1) (by rw [f171]; exact hRr) ?_ ?_ ?_ ?_ ?_ ?_ ?_ ?_ ?_) (by decide))
    · intro j1; exfalso; clear hEA hAE hIA hAI hLe hLr hLc hRr hRc hRe hN0 hz; omega
    · intro j1 j2 j3 j4 jX j5; exfalso; clear hEA hAE hIA hAI hLe hLr hLc hRr hRc hRe hN0 hz jX; omega
    · intro j1 j2 j3 j4 jX j5; exfalso; clear hEA hAE hIA hAI hLe hLr hLc hRr hRc hRe hN0 hz jX; omega
    · intro j1 j2 j3 j4 jI j5; exfalso; clear hEA hAE hIA hAI hLe hLr hLc hRr hRc hRe hN0 hz jI; omega
    · intro j1 j2 j3 j4 jI j5 j6; exfalso; clear hEA hAE hIA hAI hLe hLr hLc hRr hRc hRe hN0 hz jI; omega
    · intro j1 j2 j3 j4 jI j5 j6 jX j7; exfalso; clear hEA hAE hIA hAI hLe hLr hLc hRr hRc hRe hN0 hz jX jI; omega
    · intro j1 j2 j3 j4 jI j5 j6 jX j7; exfalso; clear hEA hAE hIA hAI hLe hLr hLc hRr hRc hRe hN0 hz jX jI; omega
    · intro j1 j2 j3; exact h2 _ _ _ _ _ hR2 (fun _ => rfl)
    · intro j1 j2; exfalso; clear hEA hAE hIA hAI hLe hLr hLc hRr hRc hRe hN0 hz; omega
end
end
section
/-! the two fresh objects -/
def v_V0 : v_V := fun _ _ => 0
def v_zb (S : m_H) : Bool := S.all (fun c => c.2.all (fun v => match v with | .int x => x == 0 | _ => true))
theorem mkh_zero {S : m_H} (h : v_zb S = true) : mkh S v_V0 = S := by
  apply v_list_ext
  intro k
  rw [mkh_nth]
  cases hk : m_nth S k with
  | none => rfl
  | some c =>
    show some (c.1, v_mc (fun _ => 0) 0 c.2) = some c
    rw [v_mc_zero]
    intro v hv
    have h1 := List.all_eq_true.mp (List.all_eq_true.mp h c (v_mem hk)) v hv
    cases v with
    | int x =>
      left
      have : x = 0 := by simpa using h1
      rw [this]
      rfl
    | _ => exact Or.inr (fun x e => by cases e)
set_option maxRecDepth 100000 in
theorem v_h0z : v_zb m_h0 = true := by decide +kernel
theorem v_C0 : ClF m_h0 := by
  intro k t vs h
  unfold cl_at at h
  split at h
  · cases h
  · split at h
    · exact ⟨by omega, h⟩
    · cases h
theorem v_M0 : MdS m_h0 := ⟨⟨by decide, rfl⟩, ⟨by decide, rfl⟩, ⟨by decide, rfl⟩, ⟨by decide, rfl⟩, ⟨by decide, rfl⟩, ⟨by decide, rfl⟩, ⟨by decide, rfl⟩, ⟨by decide, rfl⟩, ⟨by decide, rfl⟩, ⟨by decide, rfl⟩, ⟨by decide, rfl⟩, ⟨by decide, rfl⟩, ⟨by decide, rfl⟩, ⟨by decide, rfl⟩, ⟨by decide, rfl⟩, ⟨by decide, rfl⟩, ⟨by decide, rfl⟩, ⟨by decide, rfl⟩, ⟨by decide, rfl⟩, ⟨by decide, rfl⟩, ⟨by decide, rfl⟩, ⟨by decide, rfl⟩, ⟨by decide, rfl⟩⟩
theorem v_nul {S : m_H} {t n : Nat} : ∀ v ∈ List.replicate n Value.null, v_asg S t v := fun v hv => Or.inl (List.eq_of_mem_replicate hv)
theorem RN_0 (B : Nat) : RN v_V0 B (fun _ => 0) := ⟨⟨rfl, rfl, rfl, rfl, rfl, rfl, rfl⟩, fun _ _ => rfl, fun _ _ => rfl, fun b _ => ⟨fun h => absurd h (by show ¬ (b : Int) < 0; omega), rfl, rfl, rfl, rfl, fun _ _ => rfl, fun _ _ => rfl, fun _ _ => rfl⟩⟩
theorem RS_0 (B : Nat) (tl : Nat → List p_Li) (h2 : ce m_h0 (B + 2) 22 (List.replicate 8 .null)) (h5 : ce m_h0 (B + 5) 24 (List.replicate 20 .null)) (h6 : ce m_h0 (B + 6) 24 (List.replicate 5 .null)) : RS m_h0 v_V0 B (fun _ => 0) tl :=
  ⟨RN_0 B, ⟨_, h2, rfl, v_nul, fun i hi => absurd hi (by show ¬ (i : Int) < 0; omega)⟩, ⟨_, h5, rfl, v_nul, fun i hi => absurd hi (by show ¬ (i : Int) < 0; omega)⟩, ⟨_, h6, rfl, v_nul, fun i hi => absurd hi (by show ¬ (i : Int) < 0; omega)⟩⟩
theorem SO_0 : SO 0 (fun _ => 0) := by
  refine ⟨by decide, fun _ _ => by simp, fun b _ => ⟨by simp, ⟨by simp, by simp, fun h => absurd h (by show ¬ (b : Int) < 0; omega)⟩, by simp, by simp, fun _ _ => by show -2147483648 ≤ (0 : Int) ∧ (0 : Int) < 2147483648; decide, fun _ _ => by show -2147483648 ≤ (0 : Int) ∧ (0 : Int) < 2147483648; decide⟩, fun b _ _ _ => ⟨by simp, by simp, fun h => absurd h (by show ¬ (b : Int) < 0; omega)⟩, fun i _ => ⟨by simp, by simp, fun h => absurd h (by show ¬ (i : Int) < 0; omega)⟩, fun i h => absurd h (by show ¬ (i : Int) < 0; omega), fun i h => absurd h (by show ¬ (i : Int) < 0; omega)⟩
end
section
/-! what holds before the first call -/
theorem RWc_0 : RWc v_V0 0 aw0 := by
  refine ⟨⟨by decide, by decide, by decide⟩, fun t _ => ?_⟩
  refine ⟨?_, ?_, ?_, rfl, rfl, rfl⟩
  all_goals
    show (0 : Int) / 2 ^ t % 2 = 0
    rw [Int.zero_ediv]
    rfl
theorem RR_0 : RR 0 193 11164 m_h0 v_V0 := by
  refine ⟨fun _ => [], ⟨v_C0, RS_0 1 _ ⟨by decide, rfl⟩ ⟨by decide, rfl⟩ ⟨by decide, rfl⟩, RS_0 58 _ ⟨by decide, rfl⟩ ⟨by decide, rfl⟩ ⟨by decide, rfl⟩, ⟨.null, .null, ⟨by decide, rfl⟩, Or.inl rfl⟩, ⟨⟨.null, ⟨by decide, rfl⟩⟩, ⟨List.replicate 4 .null, ⟨by decide, rfl⟩, rfl, v_nul⟩, fun _ _ _ _ => rfl, fun _ => RWc_0⟩, by decide, by decide, Or.inl rfl⟩, ⟨v_M0, rfl, rfl, fun i hi => absurd hi (by show ¬ (i : Int) < 0; omega), by decide, rfl⟩, ⟨SO_0, SO_0, Int.le_refl _, fun i hi => absurd hi (by show ¬ (i : Int) < 0; omega)⟩, ?_⟩
  have e : m_h0.length = 193 := by decide +kernel
  unfold RZ
  rw [e]
  decide
end
section
/-! THE SAME ROWS: what the class' search looks for (its last packet breaks the PROMISE) and what the reference looks for (some packet of it does) -/
theorem cnA_pos {op : Nat → Bool} {f : Nat → Int} {x : Int} : ∀ m : Nat, 0 < cnA op f x m ↔ ∃ s, s < m ∧ op s = true ∧ f s = x
  | 0 => ⟨fun h => absurd h (by show ¬ (0 : Int) < 0; omega), fun ⟨s, h, _⟩ => absurd h (by omega)⟩
  | m + 1 => by
    have ih := cnA_pos (op := op) (f := f) (x := x) m
    have h0 := cnA_rg op f x m
    by_cases hm : op m = true ∧ f m = x
    · rw [cnA_1 hm]
      exact ⟨fun _ => ⟨m, by omega, hm⟩, fun _ => by omega⟩
    · rw [cnA_0 hm, ih]
      constructor
      · rintro ⟨s, h1, h2⟩
        exact ⟨s, by omega, h2⟩
      · rintro ⟨s, h1, h2⟩
        rcases (show s < m ∨ s = m by omega) with h3 | h3
        · exact ⟨s, h3, h2⟩
        · exact absurd (h3 ▸ h2) hm
theorem cnA_mono {op op' : Nat → Bool} {f f' : Nat → Int} {x : Int} (h : ∀ s : Nat, op s = true ∧ f s = x → op' s = true ∧ f' s = x) : ∀ m : Nat, cnA op f x m ≤ cnA op' f' x m
  | 0 => Int.le_refl _
  | m + 1 => by
    have ih := cnA_mono h m
    by_cases hm : op m = true ∧ f m = x
    · rw [cnA_1 hm, cnA_1 (h m hm)]
      omega
    · rw [cnA_0 hm]
      by_cases hm' : op' m = true ∧ f' m = x
      · rw [cnA_1 hm']
        omega
      · rw [cnA_0 hm']
        exact ih
theorem cnA_off {op : Nat → Bool} {f : Nat → Int} {t : Nat} (ht : op t = true) : ∀ m : Nat, cnA op f (f t) m = cnA (uB op t false) f (f t) m + (if t < m then 1 else 0)
  | 0 => by
    rw [if_neg (by omega)]
    rfl
  | m + 1 => by
    have ih := cnA_off (f := f) ht m
    by_cases e : m = t
    · subst e
      rw [cnA_1 ⟨ht, rfl⟩, cnA_0 (by rw [uB_eq]; exact fun h => absurd h.1 (by decide)), ih, if_neg (by omega), if_pos (by omega)]
      omega
    · have e3 : uB op t false m = op m := uB_ne e
      have e4 : (if t < m then (1 : Int) else 0) = if t < m + 1 then 1 else 0 := by
        by_cases h : t < m
        · rw [if_pos h, if_pos (by omega)]
        · rw [if_neg h, if_neg (by omega)]
      by_cases hm : op m = true ∧ f m = f t
      · rw [cnA_1 hm, cnA_1 (by rw [e3]; exact hm), ih, e4]
        omega
      · rw [cnA_0 hm, cnA_0 (by rw [e3]; exact hm), ih, e4]
theorem cnA_two {op : Nat → Bool} {f : Nat → Int} {t : Nat} (ht : op t = true) (h16 : t < 16) : (∃ s : Nat, s < 16 ∧ s ≠ t ∧ op s = true ∧ f s = f t) ↔ ¬ cnA op f (f t) 16 ≤ 1 := by
  have h1 := cnA_off (f := f) ht 16
  rw [if_pos h16] at h1
  have h2 := cnA_pos (op := uB op t false) (f := f) (x := f t) 16
  constructor
  · rintro ⟨s, s1, s2, s3, s4⟩
    have := h2.mpr ⟨s, s1, by rw [uB_ne s2]; exact s3, s4⟩
    omega
  · intro h
    obtain ⟨s, s1, s2, s3⟩ := h2.mp (by omega)
    have s4 : s ≠ t := fun e => by
      rw [e, uB_eq] at s2
      exact absurd s2 (by decide)
    rw [uB_ne s4] at s2
    exact ⟨s, s1, s4, s2, s3⟩
theorem cn_open {op : Nat → Bool} {g : Nat → Int} {t : Nat} {y M : Int} (hI : ∀ x, cnA op g x 16 ≤ M) (h : cnA (uB op t true) (v_uf g t y) y 16 ≤ M) : ∀ x, cnA (uB op t true) (v_uf g t y) x 16 ≤ M := by
  intro x
  by_cases e : x = y
  · rw [e]
    exact h
  · refine Int.le_trans (cnA_mono (fun s hs => ?_) 16) (hI x)
    have s1 : s ≠ t := fun q => by
      rw [q, v_uf_eq] at hs
      exact e hs.2.symm
    rw [uB_ne s1, v_uf_ne s1] at hs
    exact hs
theorem cn_close {op : Nat → Bool} {g : Nat → Int} {t : Nat} {M : Int} (hI : ∀ x, cnA op g x 16 ≤ M) : ∀ x, cnA (uB op t false) g x 16 ≤ M := by
  intro x
  refine Int.le_trans (cnA_mono (fun s hs => ?_) 16) (hI x)
  have s1 : s ≠ t := fun q => by
    rw [q, uB_eq] at hs
    exact absurd hs.1 (by decide)
  rw [uB_ne s1] at hs
  exact hs
/-- what holds behind packets none of which broke the PROMISE -/
def InA (form N : Int) (A : Aw) : Prop := (form = 1 → ∀ x, cnA (aOp A) (aHo A) x 16 ≤ N) ∧ (form = 2 → ∀ t : Nat, t < 16 → aPa A t ≤ N) ∧ (form = 3 → ∀ x, cnA (aOp A) (aNu A) x 16 ≤ 1)
theorem InA_0 {form N : Int} (hN : 0 ≤ N) : InA form N aw0 := by
  have h : ∀ (f : Nat → Int) (x : Int), cnA (fun _ => false) f x 16 ≤ 0 := fun f x => by
    have h1 := cnA_pos (op := fun _ => false) (f := f) (x := x) 16
    by_cases h2 : 0 < cnA (fun _ => false) f x 16
    · obtain ⟨s, -, h3, -⟩ := h1.mp h2
      exact absurd h3 (by decide)
    · omega
  exact ⟨fun _ x => Int.le_trans (h _ x) hN, fun _ t _ => hN, fun _ x => Int.le_trans (h _ x) (by decide)⟩
theorem aw_pa (A : Aw) (t h k n how : Int) (s : Nat) : aPa (awS A t h k n how) s = if how = 1 ∧ s = t.toNat then aPa A s + 1 else aPa A s := by
  unfold awS
  by_cases h2 : how = 2
  · rw [if_pos h2, if_neg (by omega)]
    rfl
  · rw [if_neg h2]
    by_cases h1 : how = 1
    · have e : v_uf (aPa A) t.toNat (aPa A t.toNat + 1) s = if how = 1 ∧ s = t.toNat then aPa A s + 1 else aPa A s := by
        by_cases hs : s = t.toNat
        · rw [hs, v_uf_eq, if_pos ⟨h1, rfl⟩]
        · rw [v_uf_ne hs, if_neg (fun q => hs q.2)]
      rw [if_pos h1]
      by_cases k0 : k = 0
      · rw [if_pos k0]
        exact e
      · rw [if_neg k0]
        by_cases k2 : k = 2
        · rw [if_pos k2]
          exact e
        · rw [if_neg k2]
          exact e
    · rw [if_neg h1, if_neg (fun q => h1 q.1)]
theorem aw_1 (A : Aw) (t h k n how : Int) (h1 : how = 1) (h2 : k = 0) : aOp (awS A t h k n how) = uB (aOp A) t.toNat true ∧ aHo (awS A t h k n how) = v_uf (aHo A) t.toNat h ∧ aNu (awS A t h k n how) = v_uf (aNu A) t.toNat n := by
  unfold awS
  rw [if_neg (by omega), if_pos h1, if_pos h2]
  exact ⟨rfl, rfl, rfl⟩
theorem aw_2 (A : Aw) (t h k n how : Int) (h1 : how = 1) (h2 : k = 2) : aOp (awS A t h k n how) = uB (aOp A) t.toNat false ∧ aHo (awS A t h k n how) = aHo A ∧ aNu (awS A t h k n how) = aNu A := by
  unfold awS
  rw [if_neg (by omega), if_pos h1, if_neg (by omega), if_pos h2]
  exact ⟨rfl, rfl, rfl⟩
theorem aw_3 (A : Aw) (t h k n how : Int) (hn : ¬ (how = 1 ∧ (k = 0 ∨ k = 2))) : aOp (awS A t h k n how) = aOp A ∧ aHo (awS A t h k n how) = aHo A ∧ aNu (awS A t h k n how) = aNu A := by
  unfold awS
  by_cases h2 : how = 2
  · rw [if_pos h2]
    exact ⟨rfl, rfl, rfl⟩
  · rw [if_neg h2]
    by_cases h1 : how = 1
    · rw [if_pos h1, if_neg (by omega), if_neg (by omega)]
      exact ⟨rfl, rfl, rfl⟩
    · rw [if_neg h1]
      exact ⟨rfl, rfl, rfl⟩
theorem stepV {form N : Int} (hN : 0 ≤ N) (hf : 0 ≤ form ∧ form ≤ 4) {A : Aw} (hI : InA form N A) {t h k n how : Int} (hp : pkO t h k n) (hh : 0 ≤ how ∧ how ≤ 2) :
    (vioC (awS A t h k n how) t h k how form N ↔ vioM (awS A t h k n how) t k how form N) ∧ (¬ vioM (awS A t h k n how) t k how form N → InA form N (awS A t h k n how)) := by
  have t16 : t.toNat < 16 := by
    have := hp.1
    omega
  have hf5 : form = 0 ∨ form = 1 ∨ form = 2 ∨ form = 3 ∨ form = 4 := by omega
  rcases hf5 with rfl | rfl | rfl | rfl | rfl
  · refine ⟨?_, fun _ => ⟨fun e => absurd e (by decide), fun e => absurd e (by decide), fun e => absurd e (by decide)⟩⟩
    simp [vioC, vioM, keptM]
  · -- FORM 1
    have hI1 := hI.1 rfl
    have hC : vioC (awS A t h k n how) t h k how 1 N ↔ how = 1 ∧ N < cnA (aOp (awS A t h k n how)) (aHo (awS A t h k n how)) h 16 := by simp [vioC]
    have hM : vioM (awS A t h k n how) t k how 1 N ↔ aOp (awS A t h k n how) t.toNat = true ∧ N < cnA (aOp (awS A t h k n how)) (aHo (awS A t h k n how)) (aHo (awS A t h k n how) t.toNat) 16 := by simp [vioM, keptM]
    rw [hC, hM]
    have hG : ∀ A2 : Aw, (∀ x, cnA (aOp A2) (aHo A2) x 16 ≤ N) → InA 1 N A2 := fun A2 h2 => ⟨fun _ => h2, fun e => absurd e (by decide), fun e => absurd e (by decide)⟩
    by_cases c1 : how = 1 ∧ k = 0
    · obtain ⟨e1, e2, e3⟩ := aw_1 A t h k n how c1.1 c1.2
      rw [e1, e2, uB_eq, v_uf_eq]
      refine ⟨⟨fun q => ⟨rfl, q.2⟩, fun q => ⟨c1.1, q.2⟩⟩, fun q => hG _ ?_⟩
      rw [e1, e2]
      exact cn_open hI1 (by
        by_cases z : cnA (uB (aOp A) t.toNat true) (v_uf (aHo A) t.toNat h) h 16 ≤ N
        · exact z
        · exact absurd ⟨rfl, by omega⟩ q)
    · by_cases c2 : how = 1 ∧ k = 2
      · obtain ⟨e1, e2, e3⟩ := aw_2 A t h k n how c2.1 c2.2
        rw [e1, e2, uB_eq]
        have hc := cn_close (t := t.toNat) hI1
        refine ⟨⟨fun q => absurd q.2 (by have := hc h; omega), fun q => absurd q.1 (by decide)⟩, fun _ => hG _ ?_⟩
        rw [e1, e2]
        exact hc
      · obtain ⟨e1, e2, e3⟩ := aw_3 A t h k n how (by omega)
        rw [e1, e2]
        refine ⟨⟨fun q => absurd q.2 (by have := hI1 h; omega), fun q => absurd q.2 (by have := hI1 (aHo A t.toNat); omega)⟩, fun _ => hG _ ?_⟩
        rw [e1, e2]
        exact hI1
  · -- FORM 2
    have hI2 := hI.2.1 rfl
    have hC : vioC (awS A t h k n how) t h k how 2 N ↔ how = 1 ∧ N < aPa (awS A t h k n how) t.toNat := by simp [vioC]
    have hM : vioM (awS A t h k n how) t k how 2 N ↔ N < aPa (awS A t h k n how) t.toNat := by simp [vioM, keptM]
    rw [hC, hM]
    have ht := hI2 t.toNat t16
    refine ⟨⟨fun q => q.2, fun q => ⟨?_, q⟩⟩, fun q => ⟨fun e => absurd e (by decide), fun _ s hs => ?_, fun e => absurd e (by decide)⟩⟩
    · rw [aw_pa] at q
      by_cases h1 : how = 1
      · exact h1
      · rw [if_neg (fun z => h1 z.1)] at q
        omega
    · by_cases e : s = t.toNat
      · rw [e]
        omega
      · rw [aw_pa, if_neg (fun z => e z.2)]
        exact hI2 s hs
  · -- FORM 3
    have hI3 := hI.2.2 rfl
    have hC : vioC (awS A t h k n how) t h k how 3 N ↔ how = 1 ∧ aOp (awS A t h k n how) t.toNat = true ∧ ∃ s : Nat, s < 16 ∧ s ≠ t.toNat ∧ aOp (awS A t h k n how) s = true ∧ aNu (awS A t h k n how) s = aNu (awS A t h k n how) t.toNat := by simp [vioC]
    have hM : vioM (awS A t h k n how) t k how 3 N ↔ aOp (awS A t h k n how) t.toNat = true ∧ ¬ cnA (aOp (awS A t h k n how)) (aNu (awS A t h k n how)) (aNu (awS A t h k n how) t.toNat) 16 ≤ 1 := by simp [vioM, keptM]
    have hC2 : vioC (awS A t h k n how) t h k how 3 N ↔ how = 1 ∧ aOp (awS A t h k n how) t.toNat = true ∧ ¬ cnA (aOp (awS A t h k n how)) (aNu (awS A t h k n how)) (aNu (awS A t h k n how) t.toNat) 16 ≤ 1 := by
      rw [hC]
      constructor
      · rintro ⟨q1, q2, q3⟩
        exact ⟨q1, q2, (cnA_two q2 t16).mp q3⟩
      · rintro ⟨q1, q2, q3⟩
        exact ⟨q1, q2, (cnA_two q2 t16).mpr q3⟩
    rw [hC2, hM]
    have hG : ∀ A2 : Aw, (∀ x, cnA (aOp A2) (aNu A2) x 16 ≤ 1) → InA 3 N A2 := fun A2 h2 => ⟨fun e => absurd e (by decide), fun e => absurd e (by decide), fun _ => h2⟩
    by_cases c1 : how = 1 ∧ k = 0
    · obtain ⟨e1, e2, e3⟩ := aw_1 A t h k n how c1.1 c1.2
      rw [e1, e3, uB_eq, v_uf_eq]
      refine ⟨⟨fun q => q.2, fun q => ⟨c1.1, q⟩⟩, fun q => hG _ ?_⟩
      rw [e1, e3]
      exact cn_open hI3 (by
        by_cases z : cnA (uB (aOp A) t.toNat true) (v_uf (aNu A) t.toNat n) n 16 ≤ 1
        · exact z
        · exact absurd ⟨rfl, z⟩ q)
    · by_cases c2 : how = 1 ∧ k = 2
      · obtain ⟨e1, e2, e3⟩ := aw_2 A t h k n how c2.1 c2.2
        rw [e1, e3, uB_eq]
        refine ⟨⟨fun q => q.2, fun q => absurd q.1 (by decide)⟩, fun _ => hG _ ?_⟩
        rw [e1, e3]
        exact cn_close hI3
      · obtain ⟨e1, e2, e3⟩ := aw_3 A t h k n how (by omega)
        rw [e1, e3]
        refine ⟨⟨fun q => q.2, fun q => absurd (hI3 _) q.2⟩, fun _ => hG _ ?_⟩
        rw [e1, e3]
        exact hI3
  · refine ⟨?_, fun _ => ⟨fun e => absurd e (by decide), fun e => absurd e (by decide), fun e => absurd e (by decide)⟩⟩
    simp [vioC, vioM, keptM]
theorem wd_pre {v a L j : Nat} (h : j < L) : v / a / a ^ (L - 1 - j) = v / a ^ (L + 1 - 1 - j) := by
  rw [Nat.div_div_eq_div_mul, Nat.mul_comm a, ← Nat.pow_succ, show (L - 1 - j).succ = L + 1 - 1 - j by omega]
section
variable {form N : Int} {σ : Nat → Int} {ts : Nat → List p_Li} {m a : Nat}
theorem howV_rg (ha : 0 < a) (hlt : ∀ q : Nat, q < a → pkO (σ (1770 + 4 * q)) (σ (1770 + 4 * q + 1)) (σ (1770 + 4 * q + 2)) (σ (1770 + 4 * q + 3))) (j v : Nat) : 0 ≤ howV form σ ts m a j v ∧ howV form σ ts m a j v ≤ 2 :=
  hwP_rg (wdS_ok (form := form) (ts := ts) (m := m) hlt ha j (v / a)).1 m (Nat.le_refl m)
theorem wdS_A (hf : 0 ≤ form ∧ form ≤ 4) (L v : Nat) : (wdS form σ ts m a (L + 1) v).2 = awS (wdS form σ ts m a L (v / a)).2 (σ (1770 + 4 * (v % a))) (σ (1770 + 4 * (v % a) + 1)) (σ (1770 + 4 * (v % a) + 2)) (σ (1770 + 4 * (v % a) + 3)) (howV form σ ts m a L v) := by
  rw [wdS]
  show stA form _ _ _ _ ts m _ _ = _
  unfold stA
  rw [if_neg (by omega)]
  rfl
theorem inv_row (hN : 0 ≤ N) (hf : 0 ≤ form ∧ form ≤ 4) (ha : 0 < a) (hlt : ∀ q : Nat, q < a → pkO (σ (1770 + 4 * q)) (σ (1770 + 4 * q + 1)) (σ (1770 + 4 * q + 2)) (σ (1770 + 4 * q + 3))) : ∀ (L v : Nat), (∀ j, j < L → ¬ vioV form N σ ts m a (j + 1) (v / a ^ (L - 1 - j))) → InA form N (wdS form σ ts m a L v).2
  | 0, v, _ => InA_0 hN
  | L + 1, v, h => by
    have ih := inv_row hN hf ha hlt L (v / a) (fun j hj => by
      rw [wd_pre hj]
      exact h j (by omega))
    have h1 := h L (by omega)
    rw [show L + 1 - 1 - L = 0 by omega, Nat.pow_zero, Nat.div_one] at h1
    rw [vioV, wdS_A hf] at h1
    rw [wdS_A hf]
    exact (stepV hN hf ih (hlt _ (Nat.mod_lt _ ha)) (howV_rg ha hlt L v)).2 h1
theorem hit_vio (hN : 0 ≤ N) (hf : 0 ≤ form ∧ form ≤ 4) (ha : 0 < a) (hlt : ∀ q : Nat, q < a → pkO (σ (1770 + 4 * q)) (σ (1770 + 4 * q + 1)) (σ (1770 + 4 * q + 2)) (σ (1770 + 4 * q + 3))) (L v : Nat) (h : ∀ j, j < L → ¬ vioV form N σ ts m a (j + 1) (v / a ^ (L + 1 - 1 - j))) : hitV form N σ ts m a (L + 1) v ↔ vioV form N σ ts m a (L + 1) v := by
  have ih := inv_row (ts := ts) (m := m) hN hf ha hlt L (v / a) (fun j hj => by
    rw [wd_pre hj]
    exact h j hj)
  rw [hitV, vioV, wdS_A hf]
  refine Iff.trans ?_ (stepV hN hf ih (hlt _ (Nat.mod_lt _ ha)) (howV_rg ha hlt L v)).1
  constructor
  · rintro (⟨q, -⟩ | ⟨-, q⟩)
    · omega
    · exact q
  · intro q
    exact Or.inr ⟨by omega, q⟩
theorem brk_iff (hN : 0 ≤ N) (hf : 0 ≤ form ∧ form ≤ 4) (hlt : ∀ q : Nat, q < a → pkO (σ (1770 + 4 * q)) (σ (1770 + 4 * q + 1)) (σ (1770 + 4 * q + 2)) (σ (1770 + 4 * q + 3))) (l : Nat) (hl : 1 ≤ l) (hs : ∀ l', 1 ≤ l' → l' < l → ∀ v', v' < a ^ l' → ¬ brkV form N σ ts m a l' v') (v : Nat) (hv : v < a ^ l) : hitV form N σ ts m a l v ↔ brkV form N σ ts m a l v := by
  obtain ⟨L, rfl⟩ : ∃ L, l = L + 1 := ⟨l - 1, by omega⟩
  have ha : 0 < a := by
    rcases Nat.eq_zero_or_pos a with h | h
    · rw [h, Nat.pow_succ, Nat.mul_zero] at hv
      omega
    · exact h
  have hno : ∀ j, j < L → ¬ vioV form N σ ts m a (j + 1) (v / a ^ (L + 1 - 1 - j)) := fun j hj hq => by
    refine hs (j + 1) (by omega) (by omega) (v / a ^ (L + 1 - 1 - j)) ?_ ⟨j, by omega, ?_⟩
    · refine Nat.div_lt_of_lt_mul ?_
      rw [← Nat.pow_add, show L + 1 - 1 - j + (j + 1) = L + 1 by omega]
      exact hv
    · rw [show j + 1 - 1 - j = 0 by omega, Nat.pow_zero, Nat.div_one]
      exact hq
  rw [hit_vio hN hf ha hlt L v hno]
  constructor
  · intro q
    refine ⟨L, by omega, ?_⟩
    rw [show L + 1 - 1 - L = 0 by omega, Nat.pow_zero, Nat.div_one]
    exact q
  · rintro ⟨j, h1, h2⟩
    rcases (show j < L ∨ j = L by omega) with h3 | h3
    · exact absurd h2 (hno j h3)
    · subst h3
      rw [show j + 1 - 1 - j = 0 by omega, Nat.pow_zero, Nat.div_one] at h2
      exact h2
end
section
variable {H1 H2 : Nat → Nat → Prop} {a : Nat}
theorem br_no (C : ∀ l, 1 ≤ l → (∀ l', 1 ≤ l' → l' < l → ∀ v', v' < a ^ l' → ¬ H2 l' v') → ∀ v, v < a ^ l → (H1 l v ↔ H2 l v)) : ∀ l, (∀ l', 1 ≤ l' → l' < l → ∀ v', v' < a ^ l' → ¬ H1 l' v') ↔ (∀ l', 1 ≤ l' → l' < l → ∀ v', v' < a ^ l' → ¬ H2 l' v')
  | 0 => ⟨fun _ l' _ h => absurd h (by omega), fun _ l' _ h => absurd h (by omega)⟩
  | l + 1 => by
    have ih := br_no C l
    constructor
    · intro h
      have h2 := ih.mp (fun l' a1 a2 => h l' a1 (by omega))
      intro l' a1 a2 v' a3
      rcases (show l' < l ∨ l' = l by omega) with q | q
      · exact h2 l' a1 q v' a3
      · subst q
        exact fun z => h l' a1 a2 v' a3 ((C l' a1 h2 v' a3).mpr z)
    · intro h
      have h2 : ∀ l', 1 ≤ l' → l' < l → ∀ v', v' < a ^ l' → ¬ H2 l' v' := fun l' a1 a2 => h l' a1 (by omega)
      have h1 := ih.mpr h2
      intro l' a1 a2 v' a3
      rcases (show l' < l ∨ l' = l by omega) with q | q
      · exact h1 l' a1 q v' a3
      · subst q
        exact fun z => h l' a1 a2 v' a3 ((C l' a1 h2 v' a3).mp z)
theorem brP_same (C : ∀ l, 1 ≤ l → (∀ l', 1 ≤ l' → l' < l → ∀ v', v' < a ^ l' → ¬ H2 l' v') → ∀ v, v < a ^ l → (H1 l v ↔ H2 l v)) {l v : Nat} (h : brP H1 a l v) : brP H2 a l v := by
  obtain ⟨a1, a2, a3, a4, a5⟩ := h
  have h2 := (br_no C l).mp a4
  exact ⟨a1, a2, (C l a1 h2 v a2).mp a3, h2, fun v' hv' z => a5 v' hv' ((C l a1 h2 v' (Nat.lt_trans hv' a2)).mpr z)⟩
theorem nbP_same (C : ∀ l, 1 ≤ l → (∀ l', 1 ≤ l' → l' < l → ∀ v', v' < a ^ l' → ¬ H2 l' v') → ∀ v, v < a ^ l → (H1 l v ↔ H2 l v)) {d : Nat} (h : nbP H1 a d) : nbP H2 a d := fun l a1 a2 => (br_no C (d + 1)).mp (fun l' b1 b2 => h l' b1 (by omega)) l a1 (by omega)
theorem resP_same (C : ∀ l, 1 ≤ l → (∀ l', 1 ≤ l' → l' < l → ∀ v', v' < a ^ l' → ¬ H2 l' v') → ∀ v, v < a ^ l → (H1 l v ↔ H2 l v)) {d l v : Nat} (h : resP H1 a d l v) : resP H2 a d l v := by
  rcases h with ⟨h1, h2⟩ | ⟨h1, h2, h3⟩
  · exact Or.inl ⟨h1, brP_same C h2⟩
  · exact Or.inr ⟨h1, h2, nbP_same C h3⟩
end
/-- two TEXTS side by side: how each ends the last packet -/
theorem hwP_one (t h k n : Int) (ts : Nat → List p_Li) (M : Nat → Nat → Int) : hwP t h k n ts M 1 = (eW t h k n (ts 0) (M 0)).1 := by
  rw [hwP, if_pos (by rfl)]
theorem wdS_side {σ : Nat → Int} {ts : Nat → List p_Li} {m a : Nat} (i : Nat) : ∀ j v : Nat, (wdS (-1) σ ts m a j v).1 i = (wdS 0 σ (fun _ => ts i) 1 a j v).1 0
  | 0, _ => rfl
  | j + 1, v => by
    have ih := wdS_side (σ := σ) (ts := ts) (m := m) (a := a) i j (v / a)
    rw [wdS, wdS]
    show stM (-1) _ _ _ _ ts _ i = stM 0 _ _ _ _ (fun _ => ts i) _ 0
    unfold stM
    rw [if_pos rfl, if_neg (by decide), if_pos (by rfl), ih]
theorem last_hw {σ : Nat → Int} {ts : Nat → List p_Li} {m a : Nat} (i j v : Nat) : lastH σ (ts i) a (j + 1) v = (eW (σ (1770 + 4 * (v % a))) (σ (1770 + 4 * (v % a) + 1)) (σ (1770 + 4 * (v % a) + 2)) (σ (1770 + 4 * (v % a) + 3)) (ts i) ((wdS (-1) σ ts m a j (v / a)).1 i)).1 := by
  rw [wdS_side]
  show howV 0 σ (fun _ => ts i) 1 a j v = _
  unfold howV
  rw [hwP_one]
theorem way_iff {σ : Nat → Int} {tx ty : List p_Li} {a : Nat} (l : Nat) (hl : 1 ≤ l) (v : Nat) : hitV (-1) 0 σ (fun i => if i = 0 then tx else ty) 2 a l v ↔ wyH σ tx ty a l v := by
  obtain ⟨j, rfl⟩ : ∃ j, l = j + 1 := ⟨l - 1, by omega⟩
  have e0 : lastH σ tx a (j + 1) v = (eW (σ (1770 + 4 * (v % a))) (σ (1770 + 4 * (v % a) + 1)) (σ (1770 + 4 * (v % a) + 2)) (σ (1770 + 4 * (v % a) + 3)) tx ((wdS (-1) σ (fun i => if i = 0 then tx else ty) 2 a j (v / a)).1 0)).1 := last_hw (ts := fun i => if i = 0 then tx else ty) (m := 2) 0 j v
  have e1 : lastH σ ty a (j + 1) v = (eW (σ (1770 + 4 * (v % a))) (σ (1770 + 4 * (v % a) + 1)) (σ (1770 + 4 * (v % a) + 2)) (σ (1770 + 4 * (v % a) + 3)) ty ((wdS (-1) σ (fun i => if i = 0 then tx else ty) 2 a j (v / a)).1 1)).1 := last_hw (ts := fun i => if i = 0 then tx else ty) (m := 2) 1 j v
  rw [hitV]
  unfold wyH hitP
  rw [e0, e1]
  constructor
  · rintro (⟨-, i, i1, i2⟩ | ⟨q, -⟩)
    · rcases (show i = 0 ∨ i = 1 by omega) with z | z
      · subst z
        exact absurd rfl i2
      · subst z
        exact fun z => i2 z.symm
    · exact absurd rfl q
  · intro q
    exact Or.inl ⟨rfl, 1, by decide, fun z => q z.symm⟩
end
section
/-! pairs of calls: shown and ways answer alike -/
section
variable {X : Nat → List Int32} {u w cnt : Nat} {S : m_H} {V : v_V}
set_option maxRecDepth 100000 in
set_option maxHeartbeats 4000000 in
theorem pr_shownT (hR : RR cnt u w S V) {x : Int} (hx1 : (-2147483648 ≤ x ∧ x < 2147483648)) {y : Int} (hy1 : (-2147483648 ≤ y ∧ y < 2147483648)) {n : Int} (hn1 : (-2147483648 ≤ n ∧ n < 2147483648)) {d : Int} (hd1 : (-2147483648 ≤ d ∧ d < 2147483648)) {i : Int} (hi1 : (-2147483648 ≤ i ∧ i < 2147483648)) : PR X True 88 160 [.ref 0, iv x, iv y, iv n, iv d, iv i] [.ref 170, iv x, iv y, iv n, iv d, iv i] cnt u w S V := by
  have hR2 := RR_le hR (Nat.le_succ cnt)
  obtain ⟨tl, hC, hM, hP, hZ⟩ := hR
  have hC0 := hC
  have hM0 := hM
  have hP0 := hP
  obtain ⟨c1, c2, c3, c4, c5, c6, c7, c8⟩ := hC
  obtain ⟨m1, -, -, m4, m5, m6⟩ := hM
  obtain ⟨p1, p2, p3, p4⟩ := hP
  obtain ⟨n1, n2, n3, n4⟩ := c2.1
  have hsz := p1.1
  obtain ⟨⟨lf, s1⟩, s2, s3⟩ := c5
  intro K hK
  refine y_Rm (D' := 15) (cs_shown c1 c2 p1 p4 s1 s2 s3 hx1 hy1 hn1 hd1 hi1 ?_ ?_ (fun al g1 g2 g3 dn g4 l v g5 S2 V2 hE => ?_)) (by decide)
  · intros
    all_goals refine hK _ _ _ _ _ m1 (fun K2 h2 => y_Rm (D' := 11) (ms_shown m1 p1 p4 m4 hx1 hy1 hn1 hd1 hi1 ?_ ?_ ?_) (by decide))
    all_goals intros
    all_goals first | contradiction | (exfalso; omega) | exact h2 _ _ _ _ _ hR2 (fun _ => by rfl)
  · intros
    all_goals refine hK _ _ _ _ _ m1 (fun K2 h2 => y_Rm (D' := 11) (ms_shown m1 p1 p4 m4 hx1 hy1 hn1 hd1 hi1 ?_ ?_ ?_) (by decide))
    all_goals intros
    all_goals first | contradiction | (exfalso; omega) | exact h2 _ _ _ _ _ hR2 (fun _ => by rfl)
  · have e171 : V2 171 = V 171 := hE.2.2.2 171 (by omega) (by omega) (by omega) (by omega)
    have m1b := MdS_2 m1 hE.1
    refine hK _ _ _ _ V2 m1b (fun K2 h2 => y_Rm (D' := 11) (ms_shown m1b (by rw [e171]; exact p1) (by rw [e171]; exact p4) (by rw [e171]; exact fun i hi => MT_x (m4 i hi) (fun k a b => hE.2.2.2 k (by omega) (by omega) (by omega) (by omega))) hx1 hy1 hn1 hd1 hi1 ?_ ?_ (fun al2 j1 j2 j3 dn2 j4 l2 v2 j5 V3 hX => ?_)) (by decide))
    · try rw [e171]
      intros; first | contradiction | omega
    · try rw [e171]
      intros; first | contradiction | omega
    · refine h2 _ _ _ _ _ (RR_s hC0 hM0 hP0 hZ hE hX) (fun _ => ?_)
      rw [e171] at j3 j5
      obtain rfl : al = al2 := by omega
      obtain rfl : dn = dn2 := by omega
      have hpq : ∀ q : Nat, q < al → pkO (V 171 (1770 + 4 * q)) (V 171 (1770 + 4 * q + 1)) (V 171 (1770 + 4 * q + 2)) (V 171 (1770 + 4 * q + 3)) := fun q hq => p1.2.2.2.2.2.2 q (by omega)
      obtain ⟨rfl, rfl⟩ := resP_eq (resP_same (fun l hl hs v hv => brk_iff (by omega) g1.2.1 hpq l hl hs v hv) g5) j5
      rfl
set_option maxRecDepth 100000 in
set_option maxHeartbeats 4000000 in
theorem pr_waysT (hR : RR cnt u w S V) {x : Int} (hx1 : (-2147483648 ≤ x ∧ x < 2147483648)) {y : Int} (hy1 : (-2147483648 ≤ y ∧ y < 2147483648)) {d : Int} (hd1 : (-2147483648 ≤ d ∧ d < 2147483648)) {i : Int} (hi1 : (-2147483648 ≤ i ∧ i < 2147483648)) : PR X True 89 162 [.ref 0, iv x, iv y, iv d, iv i] [.ref 170, iv x, iv y, iv d, iv i] cnt u w S V := by
  have hR2 := RR_le hR (Nat.le_succ cnt)
  obtain ⟨tl, hC, hM, hP, hZ⟩ := hR
  have hC0 := hC
  have hM0 := hM
  have hP0 := hP
  obtain ⟨c1, c2, c3, c4, c5, c6, c7, c8⟩ := hC
  obtain ⟨m1, -, -, m4, m5, m6⟩ := hM
  obtain ⟨p1, p2, p3, p4⟩ := hP
  obtain ⟨n1, n2, n3, n4⟩ := c2.1
  have hsz := p1.1
  obtain ⟨⟨lf, s1⟩, s2, s3⟩ := c5
  intro K hK
  refine y_Rm (D' := 15) (cs_ways c1 c2 p1 p4 s1 s2 s3 hx1 hy1 hd1 hi1 ?_ ?_ (fun al g1 g2 g3 dn g4 l v g5 S2 V2 hE => ?_)) (by decide)
  · intros
    all_goals refine hK _ _ _ _ _ m1 (fun K2 h2 => y_Rm (D' := 10) (ms_ways m1 p1 p4 m4 hx1 hy1 hd1 hi1 ?_ ?_ ?_) (by decide))
    all_goals intros
    all_goals first | contradiction | (exfalso; omega) | exact h2 _ _ _ _ _ hR2 (fun _ => by rfl)
  · intros
    all_goals refine hK _ _ _ _ _ m1 (fun K2 h2 => y_Rm (D' := 10) (ms_ways m1 p1 p4 m4 hx1 hy1 hd1 hi1 ?_ ?_ ?_) (by decide))
    all_goals intros
    all_goals first | contradiction | (exfalso; omega) | exact h2 _ _ _ _ _ hR2 (fun _ => by rfl)
  · have e171 : V2 171 = V 171 := hE.2.2.2 171 (by omega) (by omega) (by omega) (by omega)
    have m1b := MdS_2 m1 hE.1
    refine hK _ _ _ _ V2 m1b (fun K2 h2 => y_Rm (D' := 10) (ms_ways m1b (by rw [e171]; exact p1) (by rw [e171]; exact p4) (by rw [e171]; exact fun i hi => MT_x (m4 i hi) (fun k a b => hE.2.2.2 k (by omega) (by omega) (by omega) (by omega))) hx1 hy1 hd1 hi1 ?_ ?_ (fun al2 j1 j2 j3 xn j6 yn j7 dn2 j4 l2 v2 j5 V3 hX => ?_)) (by decide))
    · try rw [e171]
      intros; first | contradiction | omega
    · try rw [e171]
      intros; first | contradiction | omega
    · refine h2 _ _ _ _ _ (RR_s hC0 hM0 hP0 hZ hE hX) (fun _ => ?_)
      rw [e171] at j3 j5
      obtain rfl : al = al2 := by omega
      obtain rfl : dn = dn2 := by omega
      obtain rfl : xn = x.toNat := by omega
      obtain rfl : yn = y.toNat := by omega
      have hpq : ∀ q : Nat, q < al → pkO (V 171 (1770 + 4 * q)) (V 171 (1770 + 4 * q + 1)) (V 171 (1770 + 4 * q + 2)) (V 171 (1770 + 4 * q + 3)) := fun q hq => p1.2.2.2.2.2.2 q (by omega)
      obtain ⟨rfl, rfl⟩ := resP_eq (resP_same (fun l hl _ v _ => way_iff l hl v) g5) j5
      rfl
end
end
section
/-! ORDERS: the told BOXES, their orders, what is counted of them -/
theorem gd_lt {l r : List Nat} {q : Nat} (h : q < l.length) : (l ++ r).getD q 0 = l.getD q 0 := by
  rw [List.getD_eq_getElem?_getD, List.getD_eq_getElem?_getD, List.getElem?_append_left h]
theorem gd_eq {l : List Nat} {a : Nat} : (l ++ [a]).getD l.length 0 = a := by
  rw [List.getD_eq_getElem?_getD, List.getElem?_append_right (Nat.le_refl _), Nat.sub_self]
  rfl
/-- the told BOXES below j, in order -/
def tdL (x : Int) : Nat → List Nat
  | 0 => []
  | j + 1 => if x / 2 ^ j % 2 = 1 then tdL x j ++ [j] else tdL x j
theorem tdL_len (x : Int) : ∀ j : Nat, ((tdL x j).length : Int) = v_bs x j
  | 0 => rfl
  | j + 1 => by
    have ih := tdL_len x j
    have hb := v_bit01 x j
    unfold tdL
    simp only [v_bs]
    split
    · rw [List.length_append, List.length_singleton]
      omega
    · omega
theorem tdL_lt (x : Int) : ∀ j q : Nat, q < (tdL x j).length → (tdL x j).getD q 0 < j
  | 0, q, h => absurd h (by show ¬ q < 0; omega)
  | j + 1, q, h => by
    have ih := tdL_lt x j
    unfold tdL at h ⊢
    split
    · rename_i hb
      rw [if_pos hb, List.length_append, List.length_singleton] at h
      rcases (show q < (tdL x j).length ∨ q = (tdL x j).length by omega) with h1 | h1
      · rw [gd_lt h1]
        have := ih q h1
        omega
      · rw [h1, gd_eq]
        omega
    · rename_i hb
      rw [if_neg hb] at h
      have := ih q h
      omega
theorem tdL_mono (x : Int) : ∀ j p q : Nat, p < q → q < (tdL x j).length → (tdL x j).getD p 0 < (tdL x j).getD q 0
  | 0, p, q, _, h => absurd h (by show ¬ q < 0; omega)
  | j + 1, p, q, hpq, h => by
    have ih := tdL_mono x j
    have il := tdL_lt x j
    unfold tdL at h ⊢
    split
    · rename_i hb
      rw [if_pos hb, List.length_append, List.length_singleton] at h
      rcases (show q < (tdL x j).length ∨ q = (tdL x j).length by omega) with h1 | h1
      · rw [gd_lt h1, gd_lt (show p < (tdL x j).length by omega)]
        exact ih p q hpq h1
      · rw [h1, gd_eq, gd_lt (show p < (tdL x j).length by omega)]
        exact il p (by omega)
    · rename_i hb
      rw [if_neg hb] at h
      exact ih p q hpq h
/-- the orders as the reference goes through them -/
def arrL (T : Nat) : Nat → List Nat → Int → List (List Nat)
  | 0, p, _ => [p]
  | r + 1, p, us => (List.range T).flatMap (fun i => if us / 2 ^ i % 2 = 0 then arrL T r (p ++ [i]) (v_o2 us i) else [])
def arrI (T r : Nat) (p : List Nat) (us : Int) (n : Nat) : List (List Nat) := (List.range n).flatMap (fun i => if us / 2 ^ i % 2 = 0 then arrL T r (p ++ [i]) (v_o2 us i) else [])
theorem arrI_s (T r : Nat) (p : List Nat) (us : Int) (n : Nat) : arrI T r p us (n + 1) = arrI T r p us n ++ (if us / 2 ^ n % 2 = 0 then arrL T r (p ++ [n]) (v_o2 us n) else []) := by
  unfold arrI
  rw [List.range_succ, List.flatMap_append]
  congr 1
  simp
def plL (T : Nat) : List (List Nat) := arrL T T [] 0
/-- the next order, as the class makes it -/
def nxt : List Nat → Bool × List Nat
  | [a, b] => if b < a then ((false, [a, b])) else (if b < a then (true, [a, b]) else (true, [b, a]))
  | [a, b, c] => if c < b then (if b < a then ((false, [a, b, c])) else (if c < a then if b < a then (true, [a, c, b]) else (true, [b, c, a]) else (true, [c, a, b]))) else (if c < b then (true, [a, b, c]) else (true, [a, c, b]))
  | [a, b, c, d] => if d < c then (if c < b then (if b < a then ((false, [a, b, c, d])) else (if d < a then if c < a then if b < a then (true, [a, d, c, b]) else (true, [b, d, c, a]) else (true, [c, d, a, b]) else (true, [d, a, c, b]))) else (if d < b then if c < b then (true, [a, b, d, c]) else (true, [a, c, d, b]) else (true, [a, d, b, c]))) else (if d < c then (true, [a, b, c, d]) else (true, [a, b, d, c]))
  | l => (false, l)
def chn : List (List Nat) → Bool
  | [] => true
  | [l] => !(nxt l).1
  | l :: l2 :: r => (nxt l == (true, l2)) && chn (l2 :: r)
theorem plL_ok : ∀ T : Nat, T < 5 → 2 ≤ T → chn (plL T) = true ∧ (plL T).all (fun l => l.length == T && l.all (fun a => decide (a < T))) = true ∧ (plL T).length ≤ 24 ∧ (plL T).head? = some (List.range T) := by decide +kernel
theorem chn_t {l : List Nat} {r : List (List Nat)} (h : chn (l :: r) = true) : chn r = true := by
  cases r with
  | nil => rfl
  | cons l2 r =>
    simp only [chn, Bool.and_eq_true] at h
    exact h.2
theorem chn_d : ∀ (dn : List (List Nat)) {r : List (List Nat)}, chn (dn ++ r) = true → chn r = true
  | [], r, h => h
  | l :: dn, r, h => chn_d dn (chn_t h)
/-- the BOXES of an order -/
def bxs (td : List Nat) (l : List Nat) : List Nat := l.map (fun a => td.getD a 0)
theorem bxs_gd {td l : List Nat} {q : Nat} (h : q < l.length) : (bxs td l).getD q 0 = td.getD (l.getD q 0) 0 := by
  unfold bxs
  rw [List.getD_eq_getElem?_getD, List.getElem?_map, List.getD_eq_getElem?_getD (l := l), List.getElem?_eq_getElem h]
  rfl
theorem nxt_map {T : Nat} (td : List Nat) (hT : td.length = T) (hm : ∀ p q, p < q → q < T → td.getD p 0 < td.getD q 0) {l : List Nat} (hl : l.length = T) (hT4 : 2 ≤ T ∧ T ≤ 4) (ha : ∀ a ∈ l, a < T) : nxt (bxs td l) = ((nxt l).1, bxs td (nxt l).2) := by
  have hc : ∀ a b : Nat, a < T → b < T → (td.getD a 0 < td.getD b 0 ↔ a < b) := fun a b h1 h2 => by
    constructor
    · intro h
      rcases Nat.lt_trichotomy a b with q | q | q
      · exact q
      · rw [q] at h
        exact absurd h (Nat.lt_irrefl _)
      · have := hm b a q h1
        omega
    · intro h
      exact hm a b h h2
  match l, hl, ha with
  | [a, b], hl, ha =>
    have a1 := ha a (by simp)
    have a2 := ha b (by simp)
    show nxt [td.getD a 0, td.getD b 0] = _
    simp only [nxt, hc b a a2 a1]
    repeat' split
    all_goals first | rfl | (exfalso; omega)
  | [a, b, c], hl, ha =>
    have a1 := ha a (by simp)
    have a2 := ha b (by simp)
    have a3 := ha c (by simp)
    show nxt [td.getD a 0, td.getD b 0, td.getD c 0] = _
    simp only [nxt, hc b a a2 a1, hc c b a3 a2, hc c a a3 a1]
    repeat' split
    all_goals first | rfl | (exfalso; omega)
  | [a, b, c, d], hl, ha =>
    have a1 := ha a (by simp)
    have a2 := ha b (by simp)
    have a3 := ha c (by simp)
    have a4 := ha d (by simp)
    show nxt [td.getD a 0, td.getD b 0, td.getD c 0, td.getD d 0] = _
    simp only [nxt, hc b a a2 a1, hc c b a3 a2, hc d c a4 a3, hc c a a3 a1, hc d a a4 a1, hc d b a4 a2]
    repeat' split
    all_goals first | rfl | (exfalso; omega)
  | [], hl, _ => exact absurd hl (by simp; omega)
  | [_], hl, _ => exact absurd hl (by simp; omega)
  | _ :: _ :: _ :: _ :: _ :: _, hl, _ => exact absurd hl (by simp; omega)
/-- how many orders keep it, and the first -/
noncomputable def cK (P : List Nat → Prop) : List (List Nat) → Nat
  | [] => 0
  | l :: r => (@ite Nat (P l) (Classical.propDecidable (P l)) 1 0) + cK P r
noncomputable def fK (P : List Nat → Prop) : List (List Nat) → List Nat
  | [] => []
  | l :: r => @ite (List Nat) (P l) (Classical.propDecidable (P l)) l (fK P r)
theorem cK_1 {P : List Nat → Prop} {l : List Nat} (r : List (List Nat)) (h : P l) : cK P (l :: r) = cK P r + 1 := by
  simp only [cK]
  rw [if_pos h, Nat.add_comm]
theorem cK_0 {P : List Nat → Prop} {l : List Nat} (r : List (List Nat)) (h : ¬ P l) : cK P (l :: r) = cK P r := by
  simp only [cK]
  rw [if_neg h, Nat.zero_add]
theorem fK_1 {P : List Nat → Prop} {l : List Nat} (r : List (List Nat)) (h : P l) : fK P (l :: r) = l := by
  simp only [fK]
  rw [if_pos h]
theorem fK_0 {P : List Nat → Prop} {l : List Nat} (r : List (List Nat)) (h : ¬ P l) : fK P (l :: r) = fK P r := by
  simp only [fK]
  rw [if_neg h]
theorem cK_app (P : List Nat → Prop) : ∀ a b : List (List Nat), cK P (a ++ b) = cK P a + cK P b
  | [], b => by rw [List.nil_append]; show _ = 0 + _; omega
  | l :: a, b => by
    have ih := cK_app P a b
    show cK P (l :: (a ++ b)) = _
    by_cases h : P l
    · rw [cK_1 _ h, cK_1 _ h, ih]
      omega
    · rw [cK_0 _ h, cK_0 _ h, ih]
theorem fK_a0 {P : List Nat → Prop} : ∀ (a : List (List Nat)) (b : List (List Nat)), cK P a = 0 → fK P (a ++ b) = fK P b
  | [], b, _ => rfl
  | l :: a, b, h0 => by
    by_cases h : P l
    · rw [cK_1 _ h] at h0
      omega
    · rw [cK_0 _ h] at h0
      show fK P (l :: (a ++ b)) = _
      rw [fK_0 _ h]
      exact fK_a0 a b h0
theorem fK_a1 {P : List Nat → Prop} : ∀ (a : List (List Nat)) (b : List (List Nat)), 0 < cK P a → fK P (a ++ b) = fK P a
  | [], b, h => absurd h (by show ¬ 0 < 0; omega)
  | l :: a, b, h0 => by
    show fK P (l :: (a ++ b)) = _
    by_cases h : P l
    · rw [fK_1 _ h, fK_1 _ h]
    · rw [cK_0 _ h] at h0
      rw [fK_0 _ h, fK_0 _ h]
      exact fK_a1 a b h0
theorem cK_same {P Q : List Nat → Prop} : ∀ (a : List (List Nat)), (∀ l ∈ a, P l ↔ Q l) → cK P a = cK Q a ∧ fK P a = fK Q a
  | [], _ => ⟨rfl, rfl⟩
  | l :: a, h => by
    have ih := cK_same a (fun l2 h2 => h l2 (List.mem_cons_of_mem _ h2))
    have hl := h l List.mem_cons_self
    by_cases hp : P l
    · rw [cK_1 _ hp, fK_1 _ hp, cK_1 _ (hl.mp hp), fK_1 _ (hl.mp hp), ih.1]
      exact ⟨rfl, rfl⟩
    · have hq := mt hl.mpr hp
      rw [cK_0 _ hp, fK_0 _ hp, cK_0 _ hq, fK_0 _ hq]
      exact ih
theorem cK_le (P : List Nat → Prop) : ∀ a : List (List Nat), cK P a ≤ a.length
  | [] => Nat.le_refl 0
  | l :: a => by
    have ih := cK_le P a
    by_cases h : P l
    · rw [cK_1 _ h, List.length_cons]
      omega
    · rw [cK_0 _ h, List.length_cons]
      omega
/-- what orders answers -/
noncomputable def ordA (P : List Nat → Prop) (td : List Nat) (T : Nat) (i : Int) : Int :=
  if i = -1 then (cK P (plL T) : Int) else if 0 < cK P (plL T) ∧ i < T then ((td.getD ((fK P (plL T)).getD i.toNat 0) 0 : Nat) : Int) else -1
theorem ordA_same {P Q : List Nat → Prop} {td : List Nat} {T : Nat} {i : Int} (h : ∀ l ∈ plL T, P l ↔ Q l) : ordA P td T i = ordA Q td T i := by
  have e := cK_same (plL T) h
  unfold ordA
  rw [e.1, e.2]
theorem pl_mem {T : Nat} (hT : 2 ≤ T ∧ T ≤ 4) {l : List Nat} (h : l ∈ plL T) : l.length = T ∧ ∀ a ∈ l, a < T := by
  have h1 := List.all_eq_true.mp (plL_ok T (by omega) hT.1).2.1 l h
  rw [Bool.and_eq_true] at h1
  exact ⟨by simpa using h1.1, fun a ha => by simpa using List.all_eq_true.mp h1.2 a ha⟩
theorem gd_mem {l : List Nat} {q : Nat} (h : q < l.length) : l.getD q 0 ∈ l := by
  rw [List.getD_eq_getElem?_getD, List.getElem?_eq_getElem h]
  exact List.getElem_mem h
end
