section
/-! TEXTS and packets lie apart -/
theorem ce_ty {S : m_H} {k t t2 : Nat} {vs ws : List Value} (h : ce S k t vs) (h2 : ce S k t2 ws) : t = t2 := by
  have e := h.2.symm.trans h2.2
  simp only [Option.some.injEq, Prod.mk.injEq] at e
  exact e.1
theorem Tx_ty {S : m_H} {t d : Nat} (h : TxS S t) (h1 : 1 ≤ d) (h6 : d ≤ 6) : ∃ vs, ce S (t + d) 20 vs := by
  rcases (show d = 1 ∨ d = 2 ∨ d = 3 ∨ d = 4 ∨ d = 5 ∨ d = 6 by omega) with rfl | rfl | rfl | rfl | rfl | rfl
  · exact ⟨_, h.2.1⟩
  · exact ⟨_, h.2.2.1⟩
  · exact ⟨_, h.2.2.2.1⟩
  · exact ⟨_, h.2.2.2.2.1⟩
  · exact ⟨_, h.2.2.2.2.2.1⟩
  · exact ⟨_, h.2.2.2.2.2.2⟩
theorem Tx_dj {S : m_H} {t t2 i : Nat} (h : TxS S t) (h2 : TxS S t2) (hne : t2 ≠ t) (hi : i ≤ 6) : t2 + i < t ∨ t + 6 < t2 + i := by
  by_cases hh : t2 + i < t ∨ t + 6 < t2 + i
  · exact hh
  · exfalso
    rcases (show t2 < t ∨ t < t2 by omega) with h3 | h3
    · obtain ⟨vs, hc⟩ := Tx_ty (d := t - t2) h2 (by omega) (by omega)
      rw [show t2 + (t - t2) = t by omega] at hc
      exact absurd (ce_ty hc h.1) (by decide)
    · obtain ⟨vs, hc⟩ := Tx_ty (d := t2 - t) h (by omega) (by omega)
      rw [show t + (t2 - t) = t2 by omega] at hc
      exact absurd (ce_ty hc h2.1) (by decide)
theorem Pk_dj {S : m_H} {V : v_V} {t pk : Nat} {a b c d : Int} (h : TxS S t) (h2 : PkS S V pk a b c d) : pk < t ∨ t + 6 < pk := by
  by_cases hh : pk < t ∨ t + 6 < pk
  · exact hh
  · exfalso
    by_cases e : pk = t
    · rw [e] at h2
      exact absurd (ce_ty h2.1 h.1) (by decide)
    · obtain ⟨vs, hc⟩ := Tx_ty (d := pk - t) h (by omega) (by omega)
      rw [show t + (pk - t) = pk by omega] at hc
      exact absurd (ce_ty h2.1 hc) (by decide)
/-- the shape when a TEXT was read -/
theorem SV_rd {S S' : m_H} (hl : 193 ≤ S.length) (h : ∀ q, q < S.length → q ≠ 115 → m_nth S' q = m_nth S q) : SV 115 S S' := by
  refine ⟨fun k a b => h k b a, ?_⟩
  have e := h (S.length - 1) (by omega) (by omega)
  have e2 : m_nth S (S.length - 1) = some (S[S.length - 1]'(by omega)) := by
    rw [m_nth_eq]
    exact List.getElem?_eq_getElem (by omega)
  have := m_nth_lt (e.trans e2)
  omega
theorem asg_rd {S S' : m_H} {vs : List Value} (h : SV 115 S S') (hc : ce S 115 3 vs) : ∀ t v, v_asg S t v → v_asg S' t v := by
  intro t v hv
  rcases hv with hv | ⟨x, ws, h1, h2⟩
  · exact Or.inl hv
  · refine Or.inr ⟨x, ws, h1, SV_ce h (fun e => ?_) h2⟩
    subst e
    have e := ce_ty hc h2
    have h5 : t = 22 ∨ t = 23 ∨ t = 24 ∨ t = 25 ∨ t = 26 ∨ m_cmp t = 99 := by
      unfold m_cmp
      split <;> simp
    rcases h5 with rfl | rfl | rfl | rfl | rfl | h5
    · exact absurd (show 3 = 6 from e) (by omega)
    · exact absurd (show 3 = 0 from e) (by omega)
    · exact absurd (show 3 = 2 from e) (by omega)
    · exact absurd (show 3 = 1 from e) (by omega)
    · exact absurd (show 3 = 8 from e) (by omega)
    · rw [h5] at e
      omega
/-- a state, when a TEXT was read that none of its TEXTS is -/
theorem RS_rd {S S' : m_H} {V V' : v_V} {B : Nat} {σ : Nat → Int} {tl : Nat → List p_Li} {t : Nat} {vs : List Value} (h : RS S V B σ tl) (hB : B = 1 ∨ B = 58) (hS : SV 115 S S') (hc : ce S 115 3 vs) (hV : ∀ k, B ≤ k → k < B + 57 → V' k = V k) (hV2 : ∀ k, 193 ≤ k → k < S.length → (k < t ∨ t + 6 < k) → V' k = V k)
    (ht : (TxS S t ∧ NT S (B + 2) (σ 0) t) ∨ S.length ≤ t) : RS S' V' B σ tl := by
  have hpk : ∀ pk a b c d, 193 ≤ pk → PkS S V pk a b c d → PkS S' V' pk a b c d := by
    intro pk a b c d hk hp
    have hlt := ce_lt hp.1
    have e := hV2 pk hk hlt (by
      rcases ht with ht | ht
      · exact Pk_dj ht.1 hp
      · omega)
    have h1 := PkS_r hp e
    exact ⟨SV_ce hS (by omega) h1.1, h1.2⟩
  have hP : ∀ (vs : List Value) (N q : Nat) (lim : Int), PkA S V vs N lim σ q → PkA S' V' vs N lim σ q := by
    intro vs N q lim ⟨a1, a2, a3⟩
    refine ⟨a1, fun v hv => asg_rd hS hc _ _ (a2 v hv), fun i hi => ?_⟩
    obtain ⟨pk, b1, b2, b3⟩ := a3 i hi
    exact ⟨pk, b1, b2, hpk _ _ _ _ _ b2 b3⟩
  obtain ⟨hN, ⟨ta, t1, t2, t3, t4⟩, ⟨wa, w1, w2⟩, ⟨la, l1, l2⟩⟩ := h
  refine ⟨RN_fr hN hV, ⟨ta, SV_ce hS (by omega) t1, t2, fun v hv => asg_rd hS hc _ _ (t3 v hv), fun i hi => ?_⟩, ⟨wa, SV_ce hS (by omega) w1, hP _ _ _ _ w2⟩, ⟨la, SV_ce hS (by omega) l1, hP _ _ _ _ l2⟩⟩
  obtain ⟨t', b1, b2, b3, b4⟩ := t4 i hi
  refine ⟨t', b1, b2, TxS_v hS (by omega) b2 b3, CT_r b4 (fun d hd => hV2 _ (by omega) ?_ ?_)⟩
  · have h6 := ce_lt b3.2.2.2.2.2.2
    omega
  · rcases ht with ht | ht
    · refine Tx_dj ht.1 b3 (fun e => ?_) hd
      subst e
      exact ht.2 ta t1 i hi b1
    · have h6 := ce_lt b3.2.2.2.2.2.2
      omega
end
section
/-! text: what it leaves -/
theorem RS_tl {S : m_H} {V : v_V} {B : Nat} {σ : Nat → Int} {tl tl' : Nat → List p_Li} (h : RS S V B σ tl) (e : ∀ i : Nat, (i : Int) < σ 0 → tl' i = tl i) : RS S V B σ tl' := by
  obtain ⟨h1, ⟨ta, t1, t2, t3, t4⟩, h3, h4⟩ := h
  refine ⟨h1, ⟨ta, t1, t2, t3, fun i hi => ?_⟩, h3, h4⟩
  obtain ⟨t, b1, b2, b3, b4⟩ := t4 i hi
  exact ⟨t, b1, b2, b3, by rw [e i hi]; exact b4⟩
theorem SO_t {cnt : Nat} {σ σ' : Nat → Int} (h : SO cnt σ) (hn : O7 σ') (e : ∀ j, 1 ≤ j → j ≠ 6 → σ' j = σ j) (h0 : σ 0 ≤ σ' 0) : SO cnt σ' := by
  obtain ⟨a1, a2, a3, a4, a5, a6, a7⟩ := h
  refine ⟨hn, fun i hi => by rw [e _ (by omega) (by omega)]; exact a2 i hi, fun b hb => ?_, fun b hb t ht => by rw [e _ (by omega) (by omega), e 1 (by omega) (by omega)]; exact a4 b hb t ht, fun i hi => by rw [e _ (by omega) (by omega), e 1 (by omega) (by omega), e 2 (by omega) (by omega)]; exact a5 i hi, fun i hi => ?_, fun i hi => ?_⟩
  · obtain ⟨c1, c2, c3, c4, c5, c6⟩ := a3 b hb
    rw [e (170 + b) (by omega) (by omega), e (178 + b) (by omega) (by omega), e (186 + b) (by omega) (by omega), e (872 + b) (by omega) (by omega), e 1 (by omega) (by omega)]
    refine ⟨c1, ⟨c2.1, c2.2.1, fun q => by have := c2.2.2 q; omega⟩, c3, c4, fun p hp => ?_, fun p hp => ?_⟩
    · show -2147483648 ≤ σ' (200 + 84 * b + p) ∧ σ' (200 + 84 * b + p) < 2147483648
      rw [e _ (by omega) (by omega)]
      exact c5 p hp
    · show -2147483648 ≤ σ' (880 + 84 * b + p) ∧ σ' (880 + 84 * b + p) < 2147483648
      rw [e _ (by omega) (by omega)]
      exact c6 p hp
  · rw [e 3 (by omega) (by omega)] at hi
    rw [e _ (by omega) (by omega), e _ (by omega) (by omega), e _ (by omega) (by omega), e _ (by omega) (by omega)]
    exact a6 i hi
  · rw [e 5 (by omega) (by omega)] at hi
    rw [e _ (by omega) (by omega), e _ (by omega) (by omega), e _ (by omega) (by omega), e _ (by omega) (by omega)]
    exact a7 i hi
theorem MT_TX {V V' : v_V} {a i : Nat} {l : List p_Li} (h : MT V i l) (hT : TX a V V') (hi : i ≠ a) (hl : TO l) : MT V' i l := by
  obtain ⟨t1, t2, t3, t4, t5, t6⟩ := hT
  obtain ⟨m1, m2, m3, m4, m5⟩ := h
  have h8 := hl.2.2.1
  have h200 := hl.2.2.2.1
  refine ⟨by rw [t4 i hi]; exact m1, fun j x hj => ?_, by rw [t5 i hi]; exact m3, fun j x hj => ?_, fun c hc => ?_⟩
  · have := m_nth_lt hj
    rw [t3 _ (by omega)]
    exact m2 j x hj
  · have := m_nth_lt hj
    rw [(t6 _ (by omega)).1]
    exact m4 j x hj
  · rw [(t6 _ (by omega)).2]
    exact m5 c hc
theorem NT_new {S : m_H} {V : v_V} {B : Nat} {σ : Nat → Int} {tl : Nat → List p_Li} (h : RT S V B σ tl) {t : Nat} (ht : S.length ≤ t) : NT S (B + 2) (σ 0) t := by
  obtain ⟨ta, t1, t2, t3, t4⟩ := h
  intro ta2 hc i hi
  have e : ta2 = ta := by
    have e := hc.2.symm.trans t1.2
    simp only [Option.some.injEq, Prod.mk.injEq] at e
    exact e.2
  obtain ⟨t', b1, b2, b3, b4⟩ := t4 i hi
  have := ce_lt b3.1
  rw [e, b1]
  intro q
  simp only [Option.some.injEq, Value.ref.injEq] at q
  have q2 : (t' : Nat) = t := q
  omega
/-- FED is empty again: both states when a TEXT was read -/
theorem RC_rd {S S' : m_H} {V V' : v_V} {σ τ : Nat → Int} {tl : Nat → List p_Li} {tp tv : Value} {t : Nat} (h : RC S V σ τ tl) (hs : σ 3 ≤ 20 ∧ σ 5 ≤ 5) (hl : 193 ≤ S.length) (r1 : ce S 115 3 [tp, .int 0, .int 0, tv]) (r2 : tv = .null ∨ ∃ t, tv = .ref t ∧ 193 ≤ t ∧ TxS S t ∧ NT S 3 (σ 0) t ∧ NT S 60 (τ 0) t) (q4 : 193 ≤ t ∧ (tv = .ref t ∨ t = S.length)) (q5 : ∀ k, k ≠ 115 → k < S.length → (k < t ∨ t + 6 < k) → V' k = v_up V 1 1 0 k) (q9 : ∀ q, q < S.length → q ≠ 115 → m_nth S' q = m_nth S q) :
    RS S' V' 1 (v_uf σ 6 0) tl ∧ RS S' V' 58 τ tl ∧ NT S' 3 (σ 0) t ∧ NT S' 60 (τ 0) t ∧ ClF S' ∧ SV 115 S S' ∧ (∃ lf, ce S' 116 4 (S116l lf)) ∧ XsA S' ∧ ∀ k, k ≠ 1 → k < 193 → k ≠ 115 → V' k = V k := by
  obtain ⟨a1, a2, a3, -, ⟨⟨lf, s1⟩, ⟨xs, x1, x2, x3⟩, s3⟩, -, -, -⟩ := h
  have hS := SV_rd hl q9
  have hNT : (TxS S t ∧ NT S 3 (σ 0) t ∧ NT S 60 (τ 0) t) ∨ (S.length ≤ t ∧ NT S 3 (σ 0) t ∧ NT S 60 (τ 0) t) := by
    rcases q4.2 with e | e
    · rcases r2 with r2 | ⟨t', b1, b2, b3, b4, b5⟩
      · rw [r2] at e; cases e
      · have : t' = t := by
          have := b1.symm.trans e
          simp only [Value.ref.injEq] at this
          exact this
        subst this
        exact Or.inl ⟨b3, b4, b5⟩
    · exact Or.inr ⟨by omega, NT_new a2.2.1 (by omega), NT_new a3.2.1 (by omega)⟩
  have hn := a2.1
  have hRN : RN (v_up V 1 1 0) 1 (v_uf σ 6 0) := RN_g hn ⟨rfl, hn.1.2.1, hn.1.2.2.1, hn.1.2.2.2.1, hn.1.2.2.2.2.1, hn.1.2.2.2.2.2.1, hn.1.2.2.2.2.2.2⟩ (fun i hi => by rw [v_up_ne (by decide), v_uf_ne (by omega)]; exact hn.2.1 i hi) (fun i hi => by rw [v_up_ne (by decide), v_uf_ne (by omega)]; exact hn.2.2.1 i hi) (fun k a b => v_up_ne (by omega)) (fun j a b => v_uf_ne (by omega)) rfl
  have hR1 := RS_n a2 hRN (fun k hk => v_up_ne (by omega)) rfl rfl hs.1 rfl hs.2 (fun j hj => v_uf_ne (by omega))
  have f : ∀ k, k ≠ 1 → k < S.length → k ≠ 115 → (k < t ∨ t + 6 < k) → V' k = V k := fun k a b c d => (q5 k c b d).trans (v_up_ne a)
  have hasg := asg_rd hS r1
  refine ⟨RS_rd (t := t) hR1 (Or.inl rfl) hS r1 (fun k a b => q5 k (by omega) (by omega) (by omega)) (fun k a b c => q5 k (by omega) b c) ?_, RS_rd (t := t) a3 (Or.inr rfl) hS r1 (fun k a b => f k (by omega) (by omega) (by omega) (by omega)) (fun k a b c => f k (by omega) b (by omega) c) ?_, ?_, ?_, ClF_v a1 hS (by decide), hS, ⟨lf, SV_ce hS (by decide) s1⟩, ⟨xs, SV_ce hS (by decide) x1, x2, fun v hv => hasg _ _ (x3 v hv)⟩, fun k a b c => f k a (by omega) c (by omega)⟩
  · rcases hNT with hq | hq
    · exact Or.inl ⟨hq.1, hq.2.1⟩
    · exact Or.inr hq.1
  · rcases hNT with hq | hq
    · exact Or.inl ⟨hq.1, hq.2.2⟩
    · exact Or.inr hq.1
  · intro ta hc
    have h3 : NT S 3 (σ 0) t := by
      rcases hNT with hq | hq
      · exact hq.2.1
      · exact hq.2.1
    exact h3 ta (SV_cf hS (by decide) (by omega) hc)
  · intro ta hc
    have h3 : NT S 60 (τ 0) t := by
      rcases hNT with hq | hq
      · exact hq.2.2
      · exact hq.2.2
    exact h3 ta (SV_cf hS (by decide) (by omega) hc)
end
section
/-! pairs of calls: text -/
section
variable {X : Nat → List Int32} {u w cnt : Nat} {S : m_H} {V : v_V}
set_option maxRecDepth 100000 in
set_option maxHeartbeats 4000000 in
theorem pr_text (hR : RR cnt u w S V) (hcn : cnt < 70)  : PR X True 71 124 [.ref 0] [.ref 170] cnt u w S V := by
  have hR2 := RR_le hR (Nat.le_succ cnt)
  obtain ⟨tl, hC, hM, hP, hZ⟩ := hR
  have hC0 := hC
  have hM0 := hM
  have hP0 := hP
  obtain ⟨c1, c2, c3, c4, c5, c6, c7, c8⟩ := hC
  obtain ⟨m1, -, -, m4, m5, m6⟩ := hM
  obtain ⟨p1, p2, p3, p4⟩ := hP
  obtain ⟨n1, n2, n3, n4⟩ := c2.1
  have hsz := p1.1
  have hsl : S.length ≤ 193 + 12 * cnt ∧ 193 ≤ S.length := ⟨hZ.2.1, hZ.1⟩
  obtain ⟨z, hz⟩ : ∃ z : Nat, V 171 6 = (z : Int) := ⟨(V 171 6).toNat, by omega⟩
  obtain ⟨a, ha⟩ : ∃ a : Nat, V 171 0 = (a : Int) := ⟨(V 171 0).toNat, by omega⟩
  have hz160 : z ≤ 160 := by omega
  have ha8 : a ≤ 8 := by omega
  obtain ⟨ta, t1, t2, t3, t4⟩ := c2.2.1
  obtain ⟨tp, tv, r1, r2⟩ := c4
  have e : pTx (V 2) z = pTx (fun i => V 171 (10 + i)) z := pTx_g9 (fun i hi => n2 i (by omega))
  have hbm : ∀ i, i < z → 0 ≤ V 171 (10 + i) ∧ V 171 (10 + i) ≤ 255 := fun i hi => p1.2.1 i (by omega)
  have hb : ∀ i, i < z → 0 ≤ V 2 i ∧ V 2 i ≤ 255 := fun i hi => by
    have h5 : V 2 i = V 171 (10 + i) := n2 i (by omega)
    rw [h5]
    exact hbm i hi
  have hv : tv = .null ∨ ∃ t, tv = .ref t ∧ 193 ≤ t ∧ TxS S t := by
    rcases r2 with h | ⟨t, b1, b2, b3, -⟩
    · exact Or.inl h
    · exact Or.inr ⟨t, b1, b2, b3⟩
  have hs35 : V 171 3 ≤ 20 ∧ V 171 5 ≤ 5 := by omega
  intro K hK
  refine y_Rm (D' := 24) (cc_text (tc := a) (z := z) c1 t1 t2 (n1.2.1.trans ha) ha8 (n1.1.trans hz) r1 (by omega) hv hz160 hb (fun g1 => ?_) (fun g1 t l S' V' q1 q2 q3 q4 q5 q6 q7 q8 q9 => ?_) (fun g1 t q S' V' q1 q2 q3 q4 q5 q6 q7 q8 q9 => ?_)) (by decide)
  · refine hK _ _ _ _ _ m1 (fun K2 h2 => y_Rm (D' := 23) (ct_text m1 ha ha8 hz hz160 hbm ?_ ?_ ?_) (by decide))
    · intro _
      exact h2 _ _ _ _ _ hR2 (fun _ => rfl)
    · intro l V' j1
      exfalso; omega
    · intro q V' j1
      exfalso; omega
  · obtain ⟨d1, d2, d3, d4, d5, d6, ⟨lf, d7⟩, ⟨xs, x1, x2, x3⟩, d9⟩ := RC_rd hC0 hs35 hZ.1 r1 r2 q4 q5 q9
    have hta : ce S' 3 22 ta := SV_ce d6 (by decide) t1
    have hS3 : SQ 3 S' (S'.set 3 (22, ta.set a (.ref t))) := SQ_set hta (by decide)
    have hTO : TO l := pTx_TO hz160 q1 q3
    have hRN : RN (v_up V' 1 3 ((a : Int) + 1)) 1 (v_uf (v_uf (V 171) 6 0) 0 ((a : Int) + 1)) := RN_g d1.1 ⟨d1.1.1.1, rfl, d1.1.1.2.2.1, d1.1.1.2.2.2.1, d1.1.1.2.2.2.2.1, d1.1.1.2.2.2.2.2.1, d1.1.1.2.2.2.2.2.2⟩ (fun i hi => by rw [v_up_ne (by decide), v_uf_ne (by omega)]; exact d1.1.2.1 i hi) (fun i hi => by rw [v_up_ne (by decide), v_uf_ne (by omega)]; exact d1.1.2.2.1 i hi) (fun k x y => v_up_ne (by omega)) (fun j x y => v_uf_ne (by omega)) rfl
    have hRT : RT (S'.set 3 (22, ta.set a (.ref t))) (v_up V' 1 3 ((a : Int) + 1)) 1 (v_uf (v_uf (V 171) 6 0) 0 ((a : Int) + 1)) (fun i => if i = a then l else tl i) := by
      obtain ⟨ta2, u1, u2, u3, u4⟩ := d1.2.1
      have e9 : ta2 = ta := by
        have e := u1.2.symm.trans hta.2
        simp only [Option.some.injEq, Prod.mk.injEq] at e
        exact e.2
      subst e9
      refine ⟨ta2.set a (.ref t), ce_eq hta, by rw [List.length_set]; exact u2, fun v hv9 => ?_, fun i hi => ?_⟩
      · rcases List.mem_or_eq_of_mem_set hv9 with h7 | h7
        · exact hS3.2 _ _ (u3 v h7)
        · rw [h7]; exact Or.inr ⟨t, _, rfl, (TxS_q hS3 (by decide) q4.1 q6).1⟩
      · have hi2 : (i : Int) < (a : Int) + 1 := hi
        by_cases hia : i = a
        · subst hia
          refine ⟨t, ?_, q4.1, TxS_q hS3 (by decide) q4.1 q6, ?_⟩
          · rw [m_nth_set, if_pos rfl, m_nth_eq, List.getElem?_eq_getElem (by omega)]
            rfl
          · show CT _ t (if i = i then l else tl i)
            rw [if_pos rfl]
            exact CT_hi (fun k hk => v_up_ne (by omega)) q4.1 q2
        · obtain ⟨t', b1, b2, b3, b4⟩ := u4 i (by show (i : Int) < V 171 0; omega)
          refine ⟨t', by rw [m_nth_set, if_neg hia]; exact b1, b2, TxS_q hS3 (by decide) b2 b3, ?_⟩
          show CT _ t' (if i = a then l else tl i)
          rw [if_neg hia]
          exact CT_hi (fun k hk => v_up_ne (by omega)) b2 b4
    have hRS1 : RS (S'.set 3 (22, ta.set a (.ref t))) (v_up V' 1 3 ((a : Int) + 1)) 1 (v_uf (v_uf (V 171) 6 0) 0 ((a : Int) + 1)) (fun i => if i = a then l else tl i) := ⟨hRN, hRT, RW_fr d1.2.2.1 hS3 (by decide) (fun k _ _ _ _ hk _ => v_up_ne (by omega)) (Int.le_refl _) (fun j _ i _ => v_uf_ne (by omega)), RA_fr d1.2.2.2 hS3 (by decide) (fun k _ _ _ _ hk _ => v_up_ne (by omega)) (Int.le_refl _) (fun j _ i _ => v_uf_ne (by omega))⟩
    have hRS2 : RS (S'.set 3 (22, ta.set a (.ref t))) (v_up V' 1 3 ((a : Int) + 1)) 58 (V 172) (fun i => if i = a then l else tl i) := RS_tl (RS_x d2 hS3 (by decide) (fun k _ _ => v_up_ne (by omega)) (fun k _ _ => v_up_ne (by omega))) (fun i hi => if_neg (by omega))
    have f : ∀ k, k ≠ 1 → k < 193 → k ≠ 115 → v_up V' 1 3 ((a : Int) + 1) k = V k := fun k p q r => (v_up_ne p).trans (d9 k p q r)
    have hC1 : RC (S'.set 3 (22, ta.set a (.ref t))) (v_up V' 1 3 ((a : Int) + 1)) (v_uf (v_uf (V 171) 6 0) 0 ((a : Int) + 1)) (V 172) (fun i => if i = a then l else tl i) := ⟨cl_set d5 (by decide), hRS1, hRS2, ⟨_, _, ce_ne q7 (by decide), Or.inl rfl⟩, ⟨⟨lf, ce_ne d7 (by decide)⟩, ⟨xs, ce_ne x1 (by decide), x2, fun v hv => hS3.2 _ _ (x3 v hv)⟩, (Se_V c5 (fun k hk => f k (by omega) (by omega) (by omega))).2.2⟩, by rw [f 8 (by decide) (by decide) (by decide)]; exact c6, by rw [f 65 (by decide) (by decide) (by decide)]; exact c7, by rw [f 0 (by decide) (by decide) (by decide)]; exact c8⟩
    have m1b := MdS_v (MdS_v m1 d6 (by decide)) (SV_set 3 S' (22, ta.set a (.ref t))) (by decide)
    have hM1 := RM_fr hM0 m1b (fun k p q => f k (by omega) (by omega) (by omega))
    have f171 : v_up V' 1 3 ((a : Int) + 1) 171 = V 171 := f 171 (by decide) (by decide) (by decide)
    refine hK _ _ _ _ _ m1b (fun K2 h2 => y_Rm (D' := 23) (ct_text (V := v_up V' 1 3 ((a : Int) + 1)) m1b (by rw [f171]; exact ha) ha8 (by rw [f171]; exact hz) hz160 (by rw [f171]; exact hbm) ?_ ?_ ?_) (by decide))
    · intro j1; exfalso; omega
    · rw [f171]
      intro l2 V2 j1 j2 j3 j4 j5 j6
      have el := q1.symm.trans (e.trans j2)
      simp only [Prod.mk.injEq, Option.some.injEq, and_true] at el
      subst el
      have hM2 : RM (S'.set 3 (22, ta.set a (.ref t))) V2 (v_uf (v_uf (V 171) 6 0) 0 ((a : Int) + 1)) (V 172) (fun i => if i = a then l else tl i) (V 0 2) := by
        obtain ⟨b1, b2, b3, b4, b5, b6⟩ := hM1
        refine ⟨b1, j6, (j5.1 172 (by decide) (by decide) (by decide) (by decide) (by decide) (by decide) (by decide)).trans b3, fun i hi => ?_, by rw [j5.2.1 40 (by decide)]; exact b5, by rw [j5.2.1 3 (by decide)]; exact b6⟩
        have hi2 : (i : Int) < (a : Int) + 1 := hi
        by_cases hia : i = a
        · subst hia
          show MT V2 i (if i = i then l else tl i)
          rw [if_pos rfl]
          exact j3
        · show MT V2 i (if i = a then l else tl i)
          rw [if_neg hia]
          exact MT_TX (b4 i (by omega)) j5 hia (p4 i (by omega))
      have hso : SO cnt (v_uf (v_uf (V 171) 6 0) 0 ((a : Int) + 1)) := SO_t p1 ⟨by show 0 ≤ (a : Int) + 1 ∧ (a : Int) + 1 ≤ 8; omega, hsz.2.1, hsz.2.2.1, hsz.2.2.2.1, hsz.2.2.2.2.1, hsz.2.2.2.2.2.1, by show (0 : Int) ≤ 0 ∧ (0 : Int) ≤ 160; decide⟩ (fun j p q => (v_uf_ne (by omega)).trans (v_uf_ne q)) (by show V 171 0 ≤ (a : Int) + 1; omega)
      have hP9 : RP (cnt + 1) (v_uf (v_uf (V 171) 6 0) 0 ((a : Int) + 1)) (V 172) (fun i => if i = a then l else tl i) := ⟨SO_le hso (Nat.le_succ cnt), SO_le p2 (Nat.le_succ cnt), by show V 172 0 ≤ (a : Int) + 1; omega, fun i hi => by
        have hi2 : (i : Int) < (a : Int) + 1 := hi
        show TO (if i = a then l else tl i)
        split
        · exact hTO
        · exact p4 i (by omega)⟩
      exact h2 _ _ _ _ _ (RR_mk hC1 hM2 (fun k hk => j5.1 k (by omega) (by omega) (by omega) (by omega) (by omega) (by omega) (by omega)) (congrFun (f 0 (by decide) (by decide) (by decide)) 2) hP9 (RZ_x (a := 7) (b := 209) hZ (by rw [List.length_set]; have := d6.2; omega) (by decide) (by decide))) (fun _ => rfl)
    · rw [f171]
      intro q V2 j1 j2
      have el := q1.symm.trans (e.trans j2)
      simp at el
  · obtain ⟨d1, d2, d3, d4, d5, d6, ⟨lf, d7⟩, d8, d9⟩ := RC_rd hC0 hs35 hZ.1 r1 r2 q4 q5 q9
    have f : ∀ k, k ≠ 1 → k < 193 → k ≠ 115 → V' k = V k := d9
    have hC1 : RC S' V' (v_uf (V 171) 6 0) (V 172) tl := ⟨d5, d1, d2, ⟨_, _, q7, Or.inr ⟨t, rfl, q4.1, q6, d3, d4⟩⟩, ⟨⟨lf, d7⟩, d8, (Se_V c5 (fun k hk => f k (by omega) (by omega) (by omega))).2.2⟩, by rw [f 8 (by decide) (by decide) (by decide)]; exact c6, by rw [f 65 (by decide) (by decide) (by decide)]; exact c7, by rw [f 0 (by decide) (by decide) (by decide)]; exact c8⟩
    have m1b := MdS_v m1 d6 (by decide)
    have hM1 := RM_fr hM0 m1b (fun k p q => f k (by omega) (by omega) (by omega))
    have f171 : V' 171 = V 171 := f 171 (by decide) (by decide) (by decide)
    refine hK _ _ _ _ _ m1b (fun K2 h2 => y_Rm (D' := 23) (ct_text (V := V') m1b (by rw [f171]; exact ha) ha8 (by rw [f171]; exact hz) hz160 (by rw [f171]; exact hbm) ?_ ?_ ?_) (by decide))
    · intro j1; exfalso; omega
    · rw [f171]
      intro l2 V2 j1 j2
      have el := q1.symm.trans (e.trans j2)
      simp at el
    · rw [f171]
      intro q9' V2 j1 j2 j5 j6 j7
      have el := q1.symm.trans (e.trans j2)
      simp only [Prod.mk.injEq, true_and] at el
      subst el
      have hM2 : RM S' V2 (v_uf (V 171) 6 0) (V 172) tl (V 0 2) := by
        obtain ⟨b1, b2, b3, b4, b5, b6⟩ := hM1
        refine ⟨b1, j6, (j5.1 172 (by decide) (by decide) (by decide) (by decide) (by decide) (by decide) (by decide)).trans b3, fun i hi => ?_, by rw [j5.2.1 40 (by decide)]; exact b5, by rw [j5.2.1 3 (by decide)]; exact b6⟩
        have hi2 : (i : Int) < V 171 0 := hi
        exact MT_TX (b4 i (by omega)) j5 (by omega) (p4 i (by omega))
      have hso : SO cnt (v_uf (V 171) 6 0) := SO_t p1 ⟨hsz.1, hsz.2.1, hsz.2.2.1, hsz.2.2.2.1, hsz.2.2.2.2.1, hsz.2.2.2.2.2.1, by show (0 : Int) ≤ 0 ∧ (0 : Int) ≤ 160; decide⟩ (fun j p q => v_uf_ne q) (Int.le_refl _)
      exact h2 _ _ _ _ _ (RR_mk hC1 hM2 (fun k hk => j5.1 k (by omega) (by omega) (by omega) (by omega) (by omega) (by omega) (by omega)) (congrFun (f 0 (by decide) (by decide) (by decide)) 2) (RP_x hP0 (SO_le hso (Nat.le_succ cnt)) rfl) (RZ_x (a := 7) (b := 209) hZ (by have := d6.2; omega) (by decide) (by decide))) (fun _ => rfl)
end
end
section
/-! lead: what the row of numbers is behind it -/
theorem z_ldR_all {a : Nat} {y m : Int} {f : Nat → Int} (ha : a < 8) (hy : 0 ≤ y ∧ y < 8) (hL : ∀ j : Nat, j < 16 → 0 ≤ f (1552 + 16 * a + j) ∧ f (1552 + 16 * a + j) < 8) : ∀ t : Nat, t ≤ 16 → (∀ j, (j < 200 ∨ 872 ≤ j) → (j < 1552 + 16 * a ∨ 1552 + 16 * a + 16 ≤ j) → z_ldR a y m t f j = f j) ∧ ((∀ j, 200 ≤ j → j < 872 → -2147483648 ≤ f j ∧ f j < 2147483648) → ∀ j, 200 ≤ j → j < 872 → -2147483648 ≤ z_ldR a y m t f j ∧ z_ldR a y m t f j < 2147483648)
  | 0, _ => ⟨fun _ _ _ => rfl, fun h => h⟩
  | t + 1, ht => by
    have ih := z_ldR_all (m := m) ha hy hL t (by omega)
    have hled := (z_ldR_led (m := m) ha hy hL t (by omega)).2 t (by omega)
    by_cases h : m / 2 ^ t % 2 = 1
    · by_cases hc : z_ldR a y m t f (1552 + 16 * a + t) = y
      · rw [z_ldR_0 (fun q => q.2 hc)]
        exact ih
      · have h0 := hL t (by omega)
        have hv : z_ldR a y m t f (1552 + 16 * a + t) = f (1552 + 16 * a + t) := by
          rw [hled]
          exact if_neg (by omega)
        obtain ⟨c, hcc⟩ : ∃ c : Nat, z_ldR a y m t f (1552 + 16 * a + t) = (c : Int) := ⟨(f (1552 + 16 * a + t)).toNat, by omega⟩
        obtain ⟨d, rfl⟩ : ∃ d : Nat, y = (d : Int) := ⟨y.toNat, by omega⟩
        have hcd : (c : Int) ≠ (d : Int) := by omega
        rw [z_ldR_1 h hcc hcd, show ((d : Int)).toNat = d from rfl]
        have hpq : 200 + 84 * c + 4 * t + 4 ≤ 200 + 84 * d + 4 * t ∨ 200 + 84 * d + 4 * t + 4 ≤ 200 + 84 * c + 4 * t := by omega
        refine ⟨fun j h1 h2 => ?_, fun hr j h1 h2 => ?_⟩
        · rw [v_uf_ne (by omega), z_mv_at hpq, if_neg (by omega), if_neg (by omega)]
          exact ih.1 j h1 h2
        · rw [v_uf_ne (by omega), z_mv_at hpq]
          split
          · decide
          · split
            · exact ih.2 hr _ (by omega) (by omega)
            · exact ih.2 hr j h1 h2
    · rw [z_ldR_0 (fun q => h q.1)]
      exact ih
end
section
/-! lead: both sides' numbers behind it -/
theorem ld_RN {V : v_V} {σ : Nat → Int} {cnt a : Nat} {y m : Int} (h : RN V 1 σ) (hs : SO cnt σ) (ha : a < 8) (hy : 0 ≤ y ∧ y < 8) : RN (z_ldC a y m 16 V) 1 (z_ldR a y m 16 σ) := by
  have h4 := h.2.2.2
  have hR : LdR 8 V σ := ⟨fun b hb t ht => (h4 b hb).2.2.2.2.2.1 t ht, fun b hb p hp => (h4 b hb).2.2.2.2.2.2.1 p hp⟩
  have hLs : ∀ j : Nat, j < 16 → 0 ≤ σ (1552 + 16 * a + j) ∧ σ (1552 + 16 * a + j) < 8 := fun j hj => by
    have := hs.2.2.2.1 a ha j hj
    omega
  have hLc : ∀ t : Nat, t < 16 → 0 ≤ V (10 + 6 * a + 1) t ∧ V (10 + 6 * a + 1) t < (8 : Nat) := fun t ht => by
    rw [hR.1 a ha t ht]
    exact hLs t ht
  have hK := ld_lock (m := m) (Nat.le_refl 8) ha hy hR hLc 16 (Nat.le_refl 16)
  have hA := (z_ldR_all (m := m) ha hy hLs 16 (Nat.le_refl 16)).1
  have f : ∀ k, k ≠ 10 + 6 * a + 1 → (∀ i : Nat, k ≠ 10 + 6 * i + 3) → z_ldC a y m 16 V k = V k := fun k p q => z_ldC_fr k p q 16
  refine RN_b h ?_ (fun k hk => f k (by omega) (fun i => by omega)) (fun j hj => hA j (by omega) (by omega)) (fun b hb => ?_)
  · unfold N7
    rw [f 1 (by omega) (fun i => by omega), hA 0 (by omega) (by omega), hA 1 (by omega) (by omega), hA 2 (by omega) (by omega), hA 3 (by omega) (by omega), hA 4 (by omega) (by omega), hA 5 (by omega) (by omega), hA 6 (by omega) (by omega)]
    exact h.1
  · obtain ⟨d1, d2, d3, d4, d5, d6, d7, d8⟩ := h4 b hb
    unfold BxN
    rw [f (10 + 6 * b) (by omega) (fun i => by omega), f (10 + 6 * b + 5) (by omega) (fun i => by omega), hA 1 (by omega) (by omega), hA (170 + b) (by omega) (by omega), hA (178 + b) (by omega) (by omega), hA (186 + b) (by omega) (by omega), hA (872 + b) (by omega) (by omega)]
    exact ⟨d1, d2, d3, d4, d5, fun t ht => hK.1 b hb t ht, fun p hp => hK.2 b hb p hp, fun p hp => by rw [hA _ (by omega) (by omega)]; exact d8 p hp⟩
theorem ld_SO {σ : Nat → Int} {cnt a : Nat} {y m : Int} (hs : SO cnt σ) (ha : (a : Int) < σ 1) (hy : 0 ≤ y ∧ y < σ 1) : SO cnt (z_ldR a y m 16 σ) := by
  have hsz := hs.1
  have ha8 : a < 8 := by omega
  have hLs : ∀ j : Nat, j < 16 → 0 ≤ σ (1552 + 16 * a + j) ∧ σ (1552 + 16 * a + j) < 8 := fun j hj => by
    have := hs.2.2.2.1 a ha8 j hj
    omega
  have hA := z_ldR_all (m := m) ha8 (show 0 ≤ y ∧ y < 8 by omega) hLs 16 (Nat.le_refl 16)
  have hled := (z_ldR_led (m := m) ha8 (show 0 ≤ y ∧ y < 8 by omega) hLs 16 (Nat.le_refl 16)).2
  have hrg := hA.2 (fun j h1 h2 => by
    have o := (hs.2.2.1 ((j - 200) / 84) (by omega)).2.2.2.2.1 ((j - 200) % 84) (by omega)
    have e : 200 + 84 * ((j - 200) / 84) + (j - 200) % 84 = j := by omega
    unfold zm at o
    rw [e] at o
    exact o)
  have e := hA.1
  refine SO_b hs ?_ (fun j hj => e j (by omega) (by omega)) (by rw [e 1 (by omega) (by omega)]; exact Int.le_refl _) (e 2 (by omega) (by omega)) (e 3 (by omega) (by omega)) (e 5 (by omega) (by omega)) (fun b hb => ?_) (fun b hb t ht => ?_)
  · unfold O7
    rw [e 0 (by omega) (by omega), e 1 (by omega) (by omega), e 2 (by omega) (by omega), e 3 (by omega) (by omega), e 4 (by omega) (by omega), e 5 (by omega) (by omega), e 6 (by omega) (by omega)]
    exact hs.1
  · obtain ⟨o1, o2, o3, o4, o5, o6⟩ := hs.2.2.1 b hb
    unfold Ob
    rw [e (170 + b) (by omega) (by omega), e (178 + b) (by omega) (by omega), e (186 + b) (by omega) (by omega), e (872 + b) (by omega) (by omega), e 1 (by omega) (by omega), e 0 (by omega) (by omega)]
    refine ⟨o1, o2, o3, o4, fun p hp => hrg (200 + 84 * b + p) (by omega) (by omega), fun p hp => ?_⟩
    show -2147483648 ≤ z_ldR a y m 16 σ (880 + 84 * b + p) ∧ z_ldR a y m 16 σ (880 + 84 * b + p) < 2147483648
    rw [e _ (by omega) (by omega)]
    exact o6 p hp
  · have o := hs.2.2.2.1 b hb t ht
    rw [e 1 (by omega) (by omega)]
    by_cases hb2 : b = a
    · subst hb2
      rw [hled t ht]
      split
      · omega
      · exact o
    · rw [e _ (by omega) (by omega)]
      exact o
end
section
/-! pairs of calls: lead -/
theorem z_ldC_hi {a : Nat} {y m : Int} {V : v_V} (ha : a < 8) (hy : 0 ≤ y ∧ y < 8) (hL : ∀ j : Nat, j < 16 → 0 ≤ V (10 + 6 * a + 1) j ∧ V (10 + 6 * a + 1) j < 8) (k : Nat) (hk : 58 ≤ k) : ∀ t : Nat, t ≤ 16 → z_ldC a y m t V k = V k
  | 0, _ => rfl
  | t + 1, ht => by
    have ih := z_ldC_hi (m := m) ha hy hL k hk t (by omega)
    have hled := z_ldC_led (a := a) (V := V) (y := y) (m := m) t t
    rw [if_neg (by omega)] at hled
    have h0 := hL t (by omega)
    by_cases h : m / 2 ^ t % 2 = 1
    · obtain ⟨c, hc⟩ : ∃ c : Nat, z_ldC a y m t V (10 + 6 * a + 1) t = (c : Int) := ⟨(V (10 + 6 * a + 1) t).toNat, by omega⟩
      by_cases hcy : (c : Int) = y
      · rw [z_ldC_1 h (hc.trans hcy), v_up_ne (by omega)]
        exact ih
      · rw [z_ldC_2 h hc hcy, v_up_ne (by omega), v_ur_ne (by omega), v_ur_ne (by omega)]
        exact ih
    · rw [z_ldC_0 h]
      exact ih
section
variable {X : Nat → List Int32} {u w cnt : Nat} {S : m_H} {V : v_V}
set_option maxRecDepth 100000 in
set_option maxHeartbeats 4000000 in
theorem pr_lead (hR : RR cnt u w S V) {x : Int} (hx1 : (-2147483648 ≤ x ∧ x < 2147483648)) {y : Int} (hy1 : (-2147483648 ≤ y ∧ y < 2147483648)) {q : Int} (hq1 : (-2147483648 ≤ q ∧ q < 2147483648)) : PR X True 80 146 [.ref 0, iv x, iv y, iv q] [.ref 170, iv x, iv y, iv q] cnt u w S V := by
  have hR2 := RR_le hR (Nat.le_succ cnt)
  obtain ⟨tl, hC, hM, hP, hZ⟩ := hR
  have hC0 := hC
  have hM0 := hM
  have hP0 := hP
  obtain ⟨c1, c2, c3, c4, c5, c6, c7, c8⟩ := hC
  obtain ⟨m1, -, -, m4, m5, m6⟩ := hM
  obtain ⟨p1, p2, p3, p4⟩ := hP
  obtain ⟨n1, n2, n3, n4⟩ := c2.1
  have hsz := p1.1
  have e7 : V 1 7 = V 171 2 := n1.2.2.2.1
  have e5 : V 1 5 = V 171 1 := n1.2.2.1
  have hLe : ∀ b : Nat, b < 8 → ∀ t : Nat, t < 16 → V (10 + 6 * b + 1) t = V 171 (1552 + 16 * b + t) := fun b hb t ht => (n4 b hb).2.2.2.2.2.1 t ht
  have hRe : ∀ t : Nat, t < 6 → V 5 t = V 171 (1680 + t) := fun t ht => n3 t ht
  have hN0 : ∀ b : Nat, (b : Int) < V 171 1 → V (10 + 6 * b) 0 = (b : Int) := fun b hb => (n4 b (by omega)).1 hb
  have hLr : ∀ b : Nat, (b : Int) < V 171 1 → ∀ t : Nat, t < 16 → 0 ≤ V 171 (1552 + 16 * b + t) ∧ V 171 (1552 + 16 * b + t) < V 171 1 := fun b hb t ht => by have := p1.2.2.2.1 b (by omega) t ht; exact ⟨this.1, this.2.2 hb⟩
  have hLc : ∀ b : Nat, (b : Int) < V 1 5 → ∀ t : Nat, t < 16 → 0 ≤ V (10 + 6 * b + 1) t ∧ V (10 + 6 * b + 1) t < V 1 5 := fun b hb t ht => by rw [hLe b (by omega) t ht, e5]; exact hLr b (by omega) t ht
  have hRr : ∀ t : Nat, t < 6 → 0 ≤ V 171 (1680 + t) ∧ V 171 (1680 + t) ≤ 7 := fun t ht => by have := p1.2.2.2.2.1 t ht; exact ⟨this.1, this.2.1⟩
  have hRc : ∀ t : Nat, t < 6 → 0 ≤ V 5 t ∧ V 5 t ≤ 7 := fun t ht => by rw [hRe t ht]; exact hRr t ht
  have hEA : (∃ b : Nat, (b : Int) < V 1 5 ∧ (b : Int) ≠ x ∧ ∃ t : Nat, t < 16 ∧ V (10 + 6 * b + 1) t = x) → (∀ b : Nat, (b : Int) < V 171 1 → (b : Int) ≠ x → ∀ t : Nat, t < 16 → V 171 (1552 + 16 * b + t) ≠ x) → False := by
    rintro ⟨b, b1, b2, t, b3, b4⟩ hA
    exact hA b (by omega) b2 t b3 ((hLe b (by omega) t b3).symm.trans b4)
  have hAE : (∀ b : Nat, (b : Int) < V 1 5 → (b : Int) ≠ x → ∀ t : Nat, t < 16 → V (10 + 6 * b + 1) t ≠ x) → (∃ b : Nat, (b : Int) < V 171 1 ∧ (b : Int) ≠ x ∧ ∃ t : Nat, t < 16 ∧ V 171 (1552 + 16 * b + t) = x) → False := by
    rintro hA ⟨b, b1, b2, t, b3, b4⟩
    exact hA b (by omega) b2 t b3 ((hLe b (by omega) t b3).trans b4)
  have hIA : (∃ t : Nat, (t : Int) < V 1 7 ∧ V 5 t = y) → (∀ t : Nat, (t : Int) < V 171 2 → V 171 (1680 + t) ≠ y) → False := by
    rintro ⟨t, b1, b2⟩ hA
    exact hA t (by omega) ((hRe t (by omega)).symm.trans b2)
  have hAI : (∀ t : Nat, (t : Int) < V 1 7 → V 5 t ≠ y) → (∃ t : Nat, (t : Int) < V 171 2 ∧ V 171 (1680 + t) = y) → False := by
    rintro hA ⟨t, b1, b2⟩
    exact hA t (by omega) ((hRe t (by omega)).trans b2)
  have hz : 0 ≤ y ∧ y < V 1 5 → z_na (V (10 + 6 * y.toNat + 1)) (V (10 + 6 * y.toNat) 0) 16 = z_na (fun t : Nat => V 171 (1552 + 16 * y.toNat + t)) y 16 := fun g => by
    rw [hN0 y.toNat (by omega), show ((y.toNat : Nat) : Int) = y by omega]
    exact z_na_c (fun i hi => hLe y.toNat (by omega) i hi)
  intro K hK
  refine y_Rm (D' := 4) (cs_lead c1 hx1 hy1 hq1 (by omega) hLc (fun b hb => hN0 b (by omega)) (by omega) hRc (fun g1 g2 => ?_) (fun g1 g2 => ?_) (fun g1 g2 => ?_) (fun g1 g2 g3 gX g4 => ?_) (fun g1 g2 g3 gX g4 g5 => ?_) (fun g1 g2 g3 gX g4 g5 gI g6 => ?_) (fun g1 g2 g3 gX g4 g5 gI g6 g7 => ?_) (fun g1 g2 g3 gX g4 g5 gI g6 g7 => ?_) (fun g1 g2 g3 => ?_)) (by decide)
  · have f171 : V 171 = V 171 := rfl
    refine hK _ _ _ _ _ m1 (fun K2 h2 => y_Rm (D' := 4) (ms_lead (V := V) m1 hx1 hy1 hq1 (by rw [f171]; exact hsz.2.1) (by rw [f171]; exact hLr) (by rw [f171]; exact hsz.2.2.1) (by rw [f171]; exact hRr) ?_ ?_ ?_ ?_ ?_ ?_ ?_ ?_ ?_) (by decide))
    · intro j1; exact h2 _ _ _ _ _ hR2 (fun _ => rfl)
    · intro j1 j2 j3 j4 jX j5; exfalso; clear hEA hAE hIA hAI hLe hLr hLc hRr hRc hRe hN0 hz jX; omega
    · intro j1 j2 j3 j4 jX j5; exfalso; clear hEA hAE hIA hAI hLe hLr hLc hRr hRc hRe hN0 hz jX; omega
    · intro j1 j2 j3 j4 jI j5; exfalso; clear hEA hAE hIA hAI hLe hLr hLc hRr hRc hRe hN0 hz jI; omega
    · intro j1 j2 j3 j4 jI j5 j6; exfalso; clear hEA hAE hIA hAI hLe hLr hLc hRr hRc hRe hN0 hz jI; omega
    · intro j1 j2 j3 j4 jI j5 j6 jX j7; exfalso; clear hEA hAE hIA hAI hLe hLr hLc hRr hRc hRe hN0 hz jX jI; omega
    · intro j1 j2 j3 j4 jI j5 j6 jX j7; exfalso; clear hEA hAE hIA hAI hLe hLr hLc hRr hRc hRe hN0 hz jX jI; omega
    · intro j1 j2 j3; exfalso; clear hEA hAE hIA hAI hLe hLr hLc hRr hRc hRe hN0 hz; omega
    · intro j1 j2; exfalso; clear hEA hAE hIA hAI hLe hLr hLc hRr hRc hRe hN0 hz; omega
  · have f171 : V 171 = V 171 := rfl
    refine hK _ _ _ _ _ m1 (fun K2 h2 => y_Rm (D' := 4) (ms_lead (V := V) m1 hx1 hy1 hq1 (by rw [f171]; exact hsz.2.1) (by rw [f171]; exact hLr) (by rw [f171]; exact hsz.2.2.1) (by rw [f171]; exact hRr) ?_ ?_ ?_ ?_ ?_ ?_ ?_ ?_ ?_) (by decide))
    · intro j1; exact h2 _ _ _ _ _ hR2 (fun _ => rfl)
    · intro j1 j2 j3 j4 jX j5; exfalso; clear hEA hAE hIA hAI hLe hLr hLc hRr hRc hRe hN0 hz jX; omega
    · intro j1 j2 j3 j4 jX j5; exfalso; clear hEA hAE hIA hAI hLe hLr hLc hRr hRc hRe hN0 hz jX; omega
    · intro j1 j2 j3 j4 jI j5; exfalso; clear hEA hAE hIA hAI hLe hLr hLc hRr hRc hRe hN0 hz jI; omega
    · intro j1 j2 j3 j4 jI j5 j6; exfalso; clear hEA hAE hIA hAI hLe hLr hLc hRr hRc hRe hN0 hz jI; omega
    · intro j1 j2 j3 j4 jI j5 j6 jX j7; exfalso; clear hEA hAE hIA hAI hLe hLr hLc hRr hRc hRe hN0 hz jX jI; omega
    · intro j1 j2 j3 j4 jI j5 j6 jX j7; exfalso; clear hEA hAE hIA hAI hLe hLr hLc hRr hRc hRe hN0 hz jX jI; omega
    · intro j1 j2 j3; exfalso; clear hEA hAE hIA hAI hLe hLr hLc hRr hRc hRe hN0 hz; omega
    · intro j1 j2; exfalso; clear hEA hAE hIA hAI hLe hLr hLc hRr hRc hRe hN0 hz; omega
  · have f171 : V 171 = V 171 := rfl
    refine hK _ _ _ _ _ m1 (fun K2 h2 => y_Rm (D' := 4) (ms_lead (V := V) m1 hx1 hy1 hq1 (by rw [f171]; exact hsz.2.1) (by rw [f171]; exact hLr) (by rw [f171]; exact hsz.2.2.1) (by rw [f171]; exact hRr) ?_ ?_ ?_ ?_ ?_ ?_ ?_ ?_ ?_) (by decide))
    · intro j1; exfalso; clear hEA hAE hIA hAI hLe hLr hLc hRr hRc hRe hN0 hz; omega
    · intro j1 j2 j3 j4 jX j5; exfalso; clear hEA hAE hIA hAI hLe hLr hLc hRr hRc hRe hN0 hz jX; omega
    · intro j1 j2 j3 j4 jX j5; exfalso; clear hEA hAE hIA hAI hLe hLr hLc hRr hRc hRe hN0 hz jX; omega
    · intro j1 j2 j3 j4 jI j5; exfalso; clear hEA hAE hIA hAI hLe hLr hLc hRr hRc hRe hN0 hz jI; omega
    · intro j1 j2 j3 j4 jI j5 j6; exfalso; clear hEA hAE hIA hAI hLe hLr hLc hRr hRc hRe hN0 hz jI; omega
    · intro j1 j2 j3 j4 jI j5 j6 jX j7; exfalso; clear hEA hAE hIA hAI hLe hLr hLc hRr hRc hRe hN0 hz jX jI; omega
    · intro j1 j2 j3 j4 jI j5 j6 jX j7; exfalso; clear hEA hAE hIA hAI hLe hLr hLc hRr hRc hRe hN0 hz jX jI; omega
    · intro j1 j2 j3; exfalso; clear hEA hAE hIA hAI hLe hLr hLc hRr hRc hRe hN0 hz; omega
    · intro j1 j2; exact h2 _ _ _ _ _ hR2 (fun _ => rfl)
  · have f171 : V 171 = V 171 := rfl
    refine hK _ _ _ _ _ m1 (fun K2 h2 => y_Rm (D' := 4) (ms_lead (V := V) m1 hx1 hy1 hq1 (by rw [f171]; exact hsz.2.1) (by rw [f171]; exact hLr) (by rw [f171]; exact hsz.2.2.1) (by rw [f171]; exact hRr) ?_ ?_ ?_ ?_ ?_ ?_ ?_ ?_ ?_) (by decide))
    · intro j1; exfalso; clear hEA hAE hIA hAI hLe hLr hLc hRr hRc hRe hN0 hz gX; omega
    · intro j1 j2 j3 j4 jX j5; exact h2 _ _ _ _ _ hR2 (fun _ => rfl)
    · intro j1 j2 j3 j4 jX j5; exact (hEA gX jX).elim
    · intro j1 j2 j3 j4 jI j5; exact h2 _ _ _ _ _ hR2 (fun _ => rfl)
    · intro j1 j2 j3 j4 jI j5 j6; exact h2 _ _ _ _ _ hR2 (fun _ => rfl)
    · intro j1 j2 j3 j4 jI j5 j6 jX j7; exact h2 _ _ _ _ _ hR2 (fun _ => rfl)
    · intro j1 j2 j3 j4 jI j5 j6 jX j7; exact (hEA gX jX).elim
    · intro j1 j2 j3; exfalso; clear hEA hAE hIA hAI hLe hLr hLc hRr hRc hRe hN0 hz gX; omega
    · intro j1 j2; exfalso; clear hEA hAE hIA hAI hLe hLr hLc hRr hRc hRe hN0 hz gX; omega
  · have hX8 : x.toNat < 8 := by clear hEA hAE hIA hAI hLe hLr hLc hRr hRc hRe hN0 gX; omega
    have f171 : (z_ldC x.toNat y q 16 V) 171 = V 171 := z_ldC_fr 171 (by clear hEA hAE hIA hAI hLe hLr hLc hRr hRc hRe hN0 gX; omega) (fun i => by omega) 16
    have hy8 : 0 ≤ y ∧ y < 8 := by clear hEA hAE hIA hAI hLe hLr hLc hRr hRc hRe hN0 gX; omega
    have hrn := ld_RN (m := q) c2.1 p1 hX8 hy8
    have hso := ld_SO (m := q) (a := x.toNat) p1 (by clear hEA hAE hIA hAI hLe hLr hLc hRr hRc hRe hN0 gX; omega) (show 0 ≤ y ∧ y < V 171 1 by clear hEA hAE hIA hAI hLe hLr hLc hRr hRc hRe hN0 gX; omega)
    have hA := (z_ldR_all (m := q) hX8 hy8 (fun j hj => by have := p1.2.2.2.1 x.toNat hX8 j hj; exact ⟨this.1, by have := this.2.1; omega⟩) 16 (Nat.le_refl 16)).1
    have hx0 : (x.toNat : Int) = x := by clear hEA hAE hIA hAI hLe hLr hLc hRr hRc hRe hN0 gX; omega
    refine hK _ _ _ _ _ m1 (fun K2 h2 => y_Rm (D' := 4) (ms_lead (V := (z_ldC x.toNat y q 16 V)) m1 hx1 hy1 hq1 (by rw [f171]; exact hsz.2.1) (by rw [f171]; exact hLr) (by rw [f171]; exact hsz.2.2.1) (by rw [f171]; exact hRr) ?_ ?_ ?_ ?_ ?_ ?_ ?_ ?_ ?_) (by decide))
    all_goals try rw [f171]
    · intro j1; exfalso; clear hEA hAE hIA hAI hLe hLr hLc hRr hRc hRe hN0 hz gX; omega
    · intro j1 j2 j3 j4 jX j5; exact (hAE gX jX).elim
    · intro j1 j2 j3 j4 jX j5
      refine h2 _ _ _ _ _ (RR_n hC0 hM0 hP0 hZ hrn (SO_le hso (Nat.le_succ cnt)) (fun k hk => by
        rcases (show 58 ≤ k ∨ k = 0 ∨ k = 8 by omega) with hk2 | rfl | rfl
        · exact z_ldC_hi hX8 hy8 (fun j hj => by rw [hLe x.toNat hX8 j hj]; have := p1.2.2.2.1 x.toNat hX8 j hj; exact ⟨this.1, by have := this.2.1; omega⟩) k hk2 16 (Nat.le_refl 16)
        · exact z_ldC_fr 0 (by omega) (fun i => by omega) 16
        · exact z_ldC_fr 8 (by omega) (fun i => by omega) 16) (hA 0 (by omega) (by omega)) (hA 3 (by omega) (by omega)) (hA 5 (by omega) (by omega)) (fun j hj => hA j (by omega) (by omega)) (v_ur_eq _ _ _) (fun k hk => v_ur_ne hk)) (fun _ => ?_)
      have hbx := hrn.2.2.2 x.toNat hX8
      have h10 : z_ldC x.toNat y q 16 V (10 + 6 * x.toNat) 0 = x := (hbx.1 (by rw [hA 1 (by omega) (by omega), hx0]; exact (by have := g1.2; rw [e5] at this; exact this))).trans hx0
      rw [h10]
      refine z_na_c (fun i hi => ?_)
      rw [v_ur_eq]
      exact (hbx.2.2.2.2.2.1 i hi).symm
    · intro j1 j2 j3 j4 jI j5; exfalso; clear hEA hAE hIA hAI hLe hLr hLc hRr hRc hRe hN0 hz gX jI; omega
    · intro j1 j2 j3 j4 jI j5 j6; exfalso; clear hEA hAE hIA hAI hLe hLr hLc hRr hRc hRe hN0 hz gX jI; omega
    · intro j1 j2 j3 j4 jI j5 j6 jX j7; exfalso; clear hEA hAE hIA hAI hLe hLr hLc hRr hRc hRe hN0 hz gX jX jI; omega
    · intro j1 j2 j3 j4 jI j5 j6 jX j7; exfalso; clear hEA hAE hIA hAI hLe hLr hLc hRr hRc hRe hN0 hz gX jX jI; omega
    · intro j1 j2 j3; exfalso; clear hEA hAE hIA hAI hLe hLr hLc hRr hRc hRe hN0 hz gX; omega
    · intro j1 j2; exfalso; clear hEA hAE hIA hAI hLe hLr hLc hRr hRc hRe hN0 hz gX; omega
  · have f171 : V 171 = V 171 := rfl
    refine hK _ _ _ _ _ m1 (fun K2 h2 => y_Rm (D' := 4) (ms_lead (V := V) m1 hx1 hy1 hq1 (by rw [f171]; exact hsz.2.1) (by rw [f171]; exact hLr) (by rw [f171]; exact hsz.2.2.1) (by rw [f171]; exact hRr) ?_ ?_ ?_ ?_ ?_ ?_ ?_ ?_ ?_) (by decide))
    · intro j1; exfalso; clear hEA hAE hIA hAI hLe hLr hLc hRr hRc hRe hN0 hz gX gI; omega
    · intro j1 j2 j3 j4 jX j5; exact h2 _ _ _ _ _ hR2 (fun _ => rfl)
    · intro j1 j2 j3 j4 jX j5; exfalso; clear hEA hAE hIA hAI hLe hLr hLc hRr hRc hRe hN0 hz gX gI jX; omega
    · intro j1 j2 j3 j4 jI j5; exact h2 _ _ _ _ _ hR2 (fun _ => rfl)
    · intro j1 j2 j3 j4 jI j5 j6; exact h2 _ _ _ _ _ hR2 (fun _ => rfl)
    · intro j1 j2 j3 j4 jI j5 j6 jX j7; exact h2 _ _ _ _ _ hR2 (fun _ => rfl)
    · intro j1 j2 j3 j4 jI j5 j6 jX j7; exact (hIA gI jI).elim
    · intro j1 j2 j3; exfalso; clear hEA hAE hIA hAI hLe hLr hLc hRr hRc hRe hN0 hz gX gI; omega
    · intro j1 j2; exfalso; clear hEA hAE hIA hAI hLe hLr hLc hRr hRc hRe hN0 hz gX gI; omega
  · have hX8 : x.toNat < 8 := by clear hEA hAE hIA hAI hLe hLr hLc hRr hRc hRe hN0 gX gI; omega
    have f171 : (z_ldC x.toNat y q 16 V) 171 = V 171 := z_ldC_fr 171 (by clear hEA hAE hIA hAI hLe hLr hLc hRr hRc hRe hN0 gX gI; omega) (fun i => by omega) 16
    have hy8 : 0 ≤ y ∧ y < 8 := by clear hEA hAE hIA hAI hLe hLr hLc hRr hRc hRe hN0 gX gI; omega
    have hrn := ld_RN (m := q) c2.1 p1 hX8 hy8
    have hso := ld_SO (m := q) (a := x.toNat) p1 (by clear hEA hAE hIA hAI hLe hLr hLc hRr hRc hRe hN0 gX gI; omega) (show 0 ≤ y ∧ y < V 171 1 by clear hEA hAE hIA hAI hLe hLr hLc hRr hRc hRe hN0 gX gI; omega)
    have hA := (z_ldR_all (m := q) hX8 hy8 (fun j hj => by have := p1.2.2.2.1 x.toNat hX8 j hj; exact ⟨this.1, by have := this.2.1; omega⟩) 16 (Nat.le_refl 16)).1
    have hx0 : (x.toNat : Int) = x := by clear hEA hAE hIA hAI hLe hLr hLc hRr hRc hRe hN0 gX gI; omega
    refine hK _ _ _ _ _ m1 (fun K2 h2 => y_Rm (D' := 4) (ms_lead (V := (z_ldC x.toNat y q 16 V)) m1 hx1 hy1 hq1 (by rw [f171]; exact hsz.2.1) (by rw [f171]; exact hLr) (by rw [f171]; exact hsz.2.2.1) (by rw [f171]; exact hRr) ?_ ?_ ?_ ?_ ?_ ?_ ?_ ?_ ?_) (by decide))
    all_goals try rw [f171]
    · intro j1; exfalso; clear hEA hAE hIA hAI hLe hLr hLc hRr hRc hRe hN0 hz gX gI; omega
    · intro j1 j2 j3 j4 jX j5; exfalso; clear hEA hAE hIA hAI hLe hLr hLc hRr hRc hRe hN0 hz gX gI jX; omega
    · intro j1 j2 j3 j4 jX j5; exfalso; clear hEA hAE hIA hAI hLe hLr hLc hRr hRc hRe hN0 hz gX gI jX; omega
    · intro j1 j2 j3 j4 jI j5; exact (hAI gI jI).elim
    · intro j1 j2 j3 j4 jI j5 j6; exfalso; have hzz := hz g2; clear hEA hAE hIA hAI hLe hLr hLc hRr hRc hRe hN0 hz gX gI jI; omega
    · intro j1 j2 j3 j4 jI j5 j6 jX j7; exact (hAE gX jX).elim
    · intro j1 j2 j3 j4 jI j5 j6 jX j7
      refine h2 _ _ _ _ _ (RR_n hC0 hM0 hP0 hZ hrn (SO_le hso (Nat.le_succ cnt)) (fun k hk => by
        rcases (show 58 ≤ k ∨ k = 0 ∨ k = 8 by omega) with hk2 | rfl | rfl
        · exact z_ldC_hi hX8 hy8 (fun j hj => by rw [hLe x.toNat hX8 j hj]; have := p1.2.2.2.1 x.toNat hX8 j hj; exact ⟨this.1, by have := this.2.1; omega⟩) k hk2 16 (Nat.le_refl 16)
        · exact z_ldC_fr 0 (by omega) (fun i => by omega) 16
        · exact z_ldC_fr 8 (by omega) (fun i => by omega) 16) (hA 0 (by omega) (by omega)) (hA 3 (by omega) (by omega)) (hA 5 (by omega) (by omega)) (fun j hj => hA j (by omega) (by omega)) (v_ur_eq _ _ _) (fun k hk => v_ur_ne hk)) (fun _ => ?_)
      have hbx := hrn.2.2.2 x.toNat hX8
      have h10 : z_ldC x.toNat y q 16 V (10 + 6 * x.toNat) 0 = x := (hbx.1 (by rw [hA 1 (by omega) (by omega), hx0]; exact (by have := g1.2; rw [e5] at this; exact this))).trans hx0
      rw [h10]
      refine z_na_c (fun i hi => ?_)
      rw [v_ur_eq]
      exact (hbx.2.2.2.2.2.1 i hi).symm
    · intro j1 j2 j3; exfalso; clear hEA hAE hIA hAI hLe hLr hLc hRr hRc hRe hN0 hz gX gI; omega
    · intro j1 j2; exfalso; clear hEA hAE hIA hAI hLe hLr hLc hRr hRc hRe hN0 hz gX gI; omega
  · have f171 : V 171 = V 171 := rfl
    refine hK _ _ _ _ _ m1 (fun K2 h2 => y_Rm (D' := 4) (ms_lead (V := V) m1 hx1 hy1 hq1 (by rw [f171]; exact hsz.2.1) (by rw [f171]; exact hLr) (by rw [f171]; exact hsz.2.2.1) (by rw [f171]; exact hRr) ?_ ?_ ?_ ?_ ?_ ?_ ?_ ?_ ?_) (by decide))
    · intro j1; exfalso; clear hEA hAE hIA hAI hLe hLr hLc hRr hRc hRe hN0 hz gX gI; omega
    · intro j1 j2 j3 j4 jX j5; exact h2 _ _ _ _ _ hR2 (fun _ => rfl)
    · intro j1 j2 j3 j4 jX j5; exfalso; clear hEA hAE hIA hAI hLe hLr hLc hRr hRc hRe hN0 hz gX gI jX; omega
    · intro j1 j2 j3 j4 jI j5; exact h2 _ _ _ _ _ hR2 (fun _ => rfl)
    · intro j1 j2 j3 j4 jI j5 j6; exact h2 _ _ _ _ _ hR2 (fun _ => rfl)
    · intro j1 j2 j3 j4 jI j5 j6 jX j7; exact h2 _ _ _ _ _ hR2 (fun _ => rfl)
    · intro j1 j2 j3 j4 jI j5 j6 jX j7; exfalso; have hzz := hz g2; clear hEA hAE hIA hAI hLe hLr hLc hRr hRc hRe hN0 hz gX gI jX jI; omega
    · intro j1 j2 j3; exfalso; clear hEA hAE hIA hAI hLe hLr hLc hRr hRc hRe hN0 hz gX gI; omega
    · intro j1 j2; exfalso; clear hEA hAE hIA hAI hLe hLr hLc hRr hRc hRe hN0 hz gX gI; omega
  · have f171 : V 171 = V 171 := rfl
    refine hK _ _ _ _ _ m1 (fun K2 h2 => y_Rm (D' := 4) (ms_lead (V := V) m1 hx1 hy1 hq1 (by rw [f171]; exact hsz.2.1) (by rw [f171]; exact hLr) (by rw [f171]; exact hsz.2.2.1) (by rw [f171]; exact hRr) ?_ ?_ ?_ ?_ ?_ ?_ ?_ ?_ ?_) (by decide))
    · intro j1; exfalso; clear hEA hAE hIA hAI hLe hLr hLc hRr hRc hRe hN0 hz; omega
    · intro j1 j2 j3 j4 jX j5; exfalso; clear hEA hAE hIA hAI hLe hLr hLc hRr hRc hRe hN0 hz jX; omega
    · intro j1 j2 j3 j4 jX j5; exfalso; clear hEA hAE hIA hAI hLe hLr hLc hRr hRc hRe hN0 hz jX; omega
    · intro j1 j2 j3 j4 jI j5; exfalso; clear hEA hAE hIA hAI hLe hLr hLc hRr hRc hRe hN0 hz jI; omega
    · intro j1 j2 j3 j4 jI j5 j6; exfalso; clear hEA hAE hIA hAI hLe hLr hLc hRr hRc hRe hN0 hz jI; omega
    · intro j1 j2 j3 j4 jI j5 j6 jX j7; exfalso; clear hEA hAE hIA hAI hLe hLr hLc hRr hRc hRe hN0 hz jX jI; omega
    · intro j1 j2 j3 j4 jI j5 j6 jX j7; exfalso; clear hEA hAE hIA hAI hLe hLr hLc hRr hRc hRe hN0 hz jX jI; omega
    · intro j1 j2 j3; exact h2 _ _ _ _ _ hR2 (fun _ => rfl)
    · intro j1 j2; exfalso; clear hEA hAE hIA hAI hLe hLr hLc hRr hRc hRe hN0 hz; omega
end
end
section
/-! the two fresh objects -/
def v_V0 : v_V := fun _ _ => 0
def v_zb (S : m_H) : Bool := S.all (fun c => c.2.all (fun v => match v with | .int x => x == 0 | _ => true))
theorem mkh_zero {S : m_H} (h : v_zb S = true) : mkh S v_V0 = S := by
  apply v_list_ext
  intro k
  rw [mkh_nth]
  cases hk : m_nth S k with
  | none => rfl
  | some c =>
    show some (c.1, v_mc (fun _ => 0) 0 c.2) = some c
    rw [v_mc_zero]
    intro v hv
    have h1 := List.all_eq_true.mp (List.all_eq_true.mp h c (v_mem hk)) v hv
    cases v with
    | int x =>
      left
      have : x = 0 := by simpa using h1
      rw [this]
      rfl
    | _ => exact Or.inr (fun x e => by cases e)
set_option maxRecDepth 100000 in
theorem v_h0z : v_zb m_h0 = true := by decide +kernel
theorem v_C0 : ClF m_h0 := by
  intro k t vs h
  unfold cl_at at h
  split at h
  · cases h
  · split at h
    · exact ⟨by omega, h⟩
    · cases h
theorem v_M0 : MdS m_h0 := ⟨⟨by decide, rfl⟩, ⟨by decide, rfl⟩, ⟨by decide, rfl⟩, ⟨by decide, rfl⟩, ⟨by decide, rfl⟩, ⟨by decide, rfl⟩, ⟨by decide, rfl⟩, ⟨by decide, rfl⟩, ⟨by decide, rfl⟩, ⟨by decide, rfl⟩, ⟨by decide, rfl⟩, ⟨by decide, rfl⟩, ⟨by decide, rfl⟩, ⟨by decide, rfl⟩, ⟨by decide, rfl⟩, ⟨by decide, rfl⟩, ⟨by decide, rfl⟩, ⟨by decide, rfl⟩, ⟨by decide, rfl⟩, ⟨by decide, rfl⟩, ⟨by decide, rfl⟩, ⟨by decide, rfl⟩, ⟨by decide, rfl⟩⟩
theorem v_nul {S : m_H} {t n : Nat} : ∀ v ∈ List.replicate n Value.null, v_asg S t v := fun v hv => Or.inl (List.eq_of_mem_replicate hv)
theorem RN_0 (B : Nat) : RN v_V0 B (fun _ => 0) := ⟨⟨rfl, rfl, rfl, rfl, rfl, rfl, rfl⟩, fun _ _ => rfl, fun _ _ => rfl, fun b _ => ⟨fun h => absurd h (by show ¬ (b : Int) < 0; omega), rfl, rfl, rfl, rfl, fun _ _ => rfl, fun _ _ => rfl, fun _ _ => rfl⟩⟩
theorem RS_0 (B : Nat) (tl : Nat → List p_Li) (h2 : ce m_h0 (B + 2) 22 (List.replicate 8 .null)) (h5 : ce m_h0 (B + 5) 24 (List.replicate 20 .null)) (h6 : ce m_h0 (B + 6) 24 (List.replicate 5 .null)) : RS m_h0 v_V0 B (fun _ => 0) tl :=
  ⟨RN_0 B, ⟨_, h2, rfl, v_nul, fun i hi => absurd hi (by show ¬ (i : Int) < 0; omega)⟩, ⟨_, h5, rfl, v_nul, fun i hi => absurd hi (by show ¬ (i : Int) < 0; omega)⟩, ⟨_, h6, rfl, v_nul, fun i hi => absurd hi (by show ¬ (i : Int) < 0; omega)⟩⟩
theorem SO_0 : SO 0 (fun _ => 0) := by
  refine ⟨by decide, fun _ _ => by simp, fun b _ => ⟨by simp, ⟨by simp, by simp, fun h => absurd h (by show ¬ (b : Int) < 0; omega)⟩, by simp, by simp, fun _ _ => by show -2147483648 ≤ (0 : Int) ∧ (0 : Int) < 2147483648; decide, fun _ _ => by show -2147483648 ≤ (0 : Int) ∧ (0 : Int) < 2147483648; decide⟩, fun b _ _ _ => ⟨by simp, by simp, fun h => absurd h (by show ¬ (b : Int) < 0; omega)⟩, fun i _ => ⟨by simp, by simp, fun h => absurd h (by show ¬ (i : Int) < 0; omega)⟩, fun i h => absurd h (by show ¬ (i : Int) < 0; omega), fun i h => absurd h (by show ¬ (i : Int) < 0; omega)⟩
end
section
/-! what holds before the first call -/
theorem RWc_0 : RWc v_V0 0 aw0 := by
  refine ⟨⟨by decide, by decide, by decide⟩, fun t _ => ?_⟩
  refine ⟨?_, ?_, ?_, rfl, rfl, rfl⟩
  all_goals
    show (0 : Int) / 2 ^ t % 2 = 0
    rw [Int.zero_ediv]
    rfl
theorem RR_0 : RR 0 193 11164 m_h0 v_V0 := by
  refine ⟨fun _ => [], ⟨v_C0, RS_0 1 _ ⟨by decide, rfl⟩ ⟨by decide, rfl⟩ ⟨by decide, rfl⟩, RS_0 58 _ ⟨by decide, rfl⟩ ⟨by decide, rfl⟩ ⟨by decide, rfl⟩, ⟨.null, .null, ⟨by decide, rfl⟩, Or.inl rfl⟩, ⟨⟨.null, ⟨by decide, rfl⟩⟩, ⟨List.replicate 4 .null, ⟨by decide, rfl⟩, rfl, v_nul⟩, fun _ _ _ _ => rfl, fun _ => RWc_0⟩, by decide, by decide, Or.inl rfl⟩, ⟨v_M0, rfl, rfl, fun i hi => absurd hi (by show ¬ (i : Int) < 0; omega), by decide, rfl⟩, ⟨SO_0, SO_0, Int.le_refl _, fun i hi => absurd hi (by show ¬ (i : Int) < 0; omega)⟩, ?_⟩
  have e : m_h0.length = 193 := by decide +kernel
  unfold RZ
  rw [e]
  decide
end
