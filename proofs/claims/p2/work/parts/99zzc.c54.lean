/-! pairs of calls: release, the search, act, hold -/
theorem RS_fx {S : m_H} {V V' : v_V} {B : Nat} {σ : Nat → Int} {tl : Nat → List p_Li} (h : RS S V B σ tl) (hB : B = 1 ∨ B = 58) (e : ∀ k, k ≠ 8 → k ≠ 9 → V' k = V k) : RS S V' B σ tl := by
  have hN : RN V' B σ := by
    obtain ⟨h1, h2, h3, h4⟩ := h.1
    refine ⟨by rw [e B (by omega) (by omega)]; exact h1, by rw [e (B + 1) (by omega) (by omega)]; exact h2, by rw [e (B + 4) (by omega) (by omega)]; exact h3, fun b hb => ?_⟩
    have h5 := h4 b hb
    unfold BxN at *
    rw [e (B + 9 + 6 * b) (by omega) (by omega), e (B + 9 + 6 * b + 1) (by omega) (by omega), e (B + 9 + 6 * b + 3) (by omega) (by omega), e (B + 9 + 6 * b + 5) (by omega) (by omega)]
    exact h5
  exact ⟨hN, RT_fr h.2.1 (SQ_rf 0 S) (by omega) (fun i t _ ht _ hct => CT_hi (fun k hk => e k (by omega) (by omega)) ht hct) (Int.le_refl _), RW_fr h.2.2.1 (SQ_rf 0 S) (by omega) (fun k _ _ _ _ hk _ => e k (by omega) (by omega)) (Int.le_refl _) (fun _ _ _ _ => rfl), RA_fr h.2.2.2 (SQ_rf 0 S) (by omega) (fun k _ _ _ _ hk _ => e k (by omega) (by omega)) (Int.le_refl _) (fun _ _ _ _ => rfl)⟩
theorem RC_2 {S S2 : m_H} {V V2 : v_V} {σ τ : Nat → Int} {tl : Nat → List p_Li} (h : RC S V σ τ tl) (hE : SrE S V S2 V2) : RC S2 V2 σ τ tl := by
  obtain ⟨a1, a2, a3, ⟨tp, tv, r1, r2⟩, ⟨-, a6, a7⟩, a8, a9, b1⟩ := h
  obtain ⟨e1, e2, e3, e4⟩ := hE
  have f : ∀ k, k < 116 ∨ (123 ≤ k ∧ k < 131) ∨ (154 ≤ k ∧ k < 158) → V2 k = V k := fun k hk => e4 k (by omega) (by omega) (by omega) (by omega)
  refine ⟨ClF_2 a1 e1, RS_2 a2 (Or.inl rfl) e1 e4, RS_2 a3 (Or.inr rfl) e1 e4, ⟨tp, tv, e1.1 _ _ _ (by decide) (by decide) r1, ?_⟩, ⟨⟨_, e2⟩, e3, SgC_0 a7 e4 (by decide)⟩, by rw [f 8 (by omega)]; exact a8, by rw [f 65 (by omega)]; exact a9, by rw [f 0 (by omega)]; exact b1⟩
  rcases r2 with r2 | ⟨t, b1, b2, b3, b4, b5⟩
  · exact Or.inl r2
  · refine Or.inr ⟨t, b1, b2, TxS_2 b2 b3 e1, fun ta hc i hi => ?_, fun ta hc i hi => ?_⟩
    · obtain ⟨tb, c1, -⟩ := a2.2.1
      have c2 := e1.1 _ _ _ (by decide) (by decide) c1
      have c3 : ta = tb := by
        have e := hc.2.symm.trans c2.2
        simp only [Option.some.injEq, Prod.mk.injEq] at e
        exact e.2
      rw [c3]
      exact b4 tb c1 i hi
    · obtain ⟨tb, c1, -⟩ := a3.2.1
      have c2 := e1.1 _ _ _ (by decide) (by decide) c1
      have c3 : ta = tb := by
        have e := hc.2.symm.trans c2.2
        simp only [Option.some.injEq, Prod.mk.injEq] at e
        exact e.2
      rw [c3]
      exact b5 tb c1 i hi
theorem RR_s {cnt u w : Nat} {S S2 : m_H} {V V2 V3 : v_V} {tl : Nat → List p_Li} (hC : RC S V (V 171) (V 172) tl) (hM : RM S V (V 171) (V 172) tl (V 0 2)) (hP : RP cnt (V 171) (V 172) tl) (hZ : RZ cnt u w S) (hE : SrE S V S2 V2) (hX : FrX V2 V3) : RR (cnt + 1) u w S2 V3 := by
  have hM1 := RM_fr hM (MdS_2 hM.1 hE.1) (fun k a b => hE.2.2.2 k (by omega) (by omega) (by omega) (by omega))
  have hM2 := RM_x (V2 := V3) hM1 ((hX.1 171 (by omega)).trans (hE.2.2.2 171 (by omega) (by omega) (by omega) (by omega))) rfl (fun k a b => hX.1 k (by omega)) ⟨hX.2 40 (by omega), hX.2 3 (by omega)⟩
  exact RR_mk (RC_2 hC hE) hM2 (fun k hk => hX.1 k (by omega)) (congrFun (hE.2.2.2 0 (by omega) (by omega) (by omega) (by omega)) 2) (RP_le hP (Nat.le_succ cnt)) (RZ_x (a := 0) (b := 0) hZ (by rw [hE.1.2.2]; omega) (by decide) (by decide))
section
variable {X : Nat → List Int32} {u w cnt : Nat} {S : m_H} {V : v_V}
set_option maxRecDepth 100000 in
set_option maxHeartbeats 4000000 in
theorem pr_shown (hR : RR cnt u w S V) {x : Int} (hx1 : (-2147483648 ≤ x ∧ x < 2147483648)) {y : Int} (hy1 : (-2147483648 ≤ y ∧ y < 2147483648)) {n : Int} (hn1 : (-2147483648 ≤ n ∧ n < 2147483648)) {d : Int} (hd1 : (-2147483648 ≤ d ∧ d < 2147483648)) {i : Int} (hi1 : (-2147483648 ≤ i ∧ i < 2147483648)) : PR X False 88 160 [.ref 0, iv x, iv y, iv n, iv d, iv i] [.ref 170, iv x, iv y, iv n, iv d, iv i] cnt u w S V := by
  have hR2 := RR_le hR (Nat.le_succ cnt)
  obtain ⟨tl, hC, hM, hP, hZ⟩ := hR
  have hC0 := hC
  have hM0 := hM
  have hP0 := hP
  obtain ⟨c1, c2, c3, c4, c5, c6, c7, c8⟩ := hC
  obtain ⟨m1, -, -, m4, m5, m6⟩ := hM
  obtain ⟨p1, p2, p3, p4⟩ := hP
  obtain ⟨n1, n2, n3, n4⟩ := c2.1
  have hsz := p1.1
  obtain ⟨⟨lf, s1⟩, s2, s3⟩ := c5
  intro K hK
  refine y_Rm (D' := 15) (cs_shown c1 c2 p1 p4 s1 s2 s3 hx1 hy1 hn1 hd1 hi1 ?_ ?_ (fun al g1 g2 g3 dn g4 l v g5 S2 V2 hE => ?_)) (by decide)
  · intros
    all_goals refine hK _ _ _ _ _ m1 (fun K2 h2 => y_Rm (D' := 11) (ms_shown m1 p1 p4 m4 hx1 hy1 hn1 hd1 hi1 ?_ ?_ ?_) (by decide))
    all_goals intros
    all_goals first | contradiction | (exfalso; omega) | exact h2 _ _ _ _ _ hR2 (fun _ => by contradiction)
  · intros
    all_goals refine hK _ _ _ _ _ m1 (fun K2 h2 => y_Rm (D' := 11) (ms_shown m1 p1 p4 m4 hx1 hy1 hn1 hd1 hi1 ?_ ?_ ?_) (by decide))
    all_goals intros
    all_goals first | contradiction | (exfalso; omega) | exact h2 _ _ _ _ _ hR2 (fun _ => by contradiction)
  · have e171 : V2 171 = V 171 := hE.2.2.2 171 (by omega) (by omega) (by omega) (by omega)
    have m1b := MdS_2 m1 hE.1
    refine hK _ _ _ _ V2 m1b (fun K2 h2 => y_Rm (D' := 11) (ms_shown m1b (by rw [e171]; exact p1) (by rw [e171]; exact p4) (by rw [e171]; exact fun i hi => MT_x (m4 i hi) (fun k a b => hE.2.2.2 k (by omega) (by omega) (by omega) (by omega))) hx1 hy1 hn1 hd1 hi1 ?_ ?_ (fun al g1 g2 g3 dn g4 l v g5 V3 hX => ?_)) (by decide))
    · try rw [e171]
      intros; first | contradiction | omega
    · try rw [e171]
      intros; first | contradiction | omega
    · exact h2 _ _ _ _ _ (RR_s hC0 hM0 hP0 hZ hE hX) (fun q => q.elim)
set_option maxRecDepth 100000 in
set_option maxHeartbeats 4000000 in
theorem pr_ways (hR : RR cnt u w S V) {x : Int} (hx1 : (-2147483648 ≤ x ∧ x < 2147483648)) {y : Int} (hy1 : (-2147483648 ≤ y ∧ y < 2147483648)) {d : Int} (hd1 : (-2147483648 ≤ d ∧ d < 2147483648)) {i : Int} (hi1 : (-2147483648 ≤ i ∧ i < 2147483648)) : PR X False 89 162 [.ref 0, iv x, iv y, iv d, iv i] [.ref 170, iv x, iv y, iv d, iv i] cnt u w S V := by
  have hR2 := RR_le hR (Nat.le_succ cnt)
  obtain ⟨tl, hC, hM, hP, hZ⟩ := hR
  have hC0 := hC
  have hM0 := hM
  have hP0 := hP
  obtain ⟨c1, c2, c3, c4, c5, c6, c7, c8⟩ := hC
  obtain ⟨m1, -, -, m4, m5, m6⟩ := hM
  obtain ⟨p1, p2, p3, p4⟩ := hP
  obtain ⟨n1, n2, n3, n4⟩ := c2.1
  have hsz := p1.1
  obtain ⟨⟨lf, s1⟩, s2, s3⟩ := c5
  intro K hK
  refine y_Rm (D' := 15) (cs_ways c1 c2 p1 p4 s1 s2 s3 hx1 hy1 hd1 hi1 ?_ ?_ (fun al g1 g2 g3 dn g4 l v g5 S2 V2 hE => ?_)) (by decide)
  · intros
    all_goals refine hK _ _ _ _ _ m1 (fun K2 h2 => y_Rm (D' := 10) (ms_ways m1 p1 p4 m4 hx1 hy1 hd1 hi1 ?_ ?_ ?_) (by decide))
    all_goals intros
    all_goals first | contradiction | (exfalso; omega) | exact h2 _ _ _ _ _ hR2 (fun _ => by contradiction)
  · intros
    all_goals refine hK _ _ _ _ _ m1 (fun K2 h2 => y_Rm (D' := 10) (ms_ways m1 p1 p4 m4 hx1 hy1 hd1 hi1 ?_ ?_ ?_) (by decide))
    all_goals intros
    all_goals first | contradiction | (exfalso; omega) | exact h2 _ _ _ _ _ hR2 (fun _ => by contradiction)
  · have e171 : V2 171 = V 171 := hE.2.2.2 171 (by omega) (by omega) (by omega) (by omega)
    have m1b := MdS_2 m1 hE.1
    refine hK _ _ _ _ V2 m1b (fun K2 h2 => y_Rm (D' := 10) (ms_ways m1b (by rw [e171]; exact p1) (by rw [e171]; exact p4) (by rw [e171]; exact fun i hi => MT_x (m4 i hi) (fun k a b => hE.2.2.2 k (by omega) (by omega) (by omega) (by omega))) hx1 hy1 hd1 hi1 ?_ ?_ (fun al g1 g2 g3 xn g6 yn g7 dn g4 l v g5 V3 hX => ?_)) (by decide))
    · try rw [e171]
      intros; first | contradiction | omega
    · try rw [e171]
      intros; first | contradiction | omega
    · exact h2 _ _ _ _ _ (RR_s hC0 hM0 hP0 hZ hE hX) (fun q => q.elim)
set_option maxRecDepth 100000 in
set_option maxHeartbeats 4000000 in
theorem pr_orders (hR : RR cnt u w S V) {x : Int} (hx1 : (-2147483648 ≤ x ∧ x < 2147483648)) {y : Int} (hy1 : (-2147483648 ≤ y ∧ y < 2147483648)) {n : Int} (hn1 : (-2147483648 ≤ n ∧ n < 2147483648)) {d : Int} (hd1 : (-2147483648 ≤ d ∧ d < 2147483648)) {i : Int} (hi1 : (-2147483648 ≤ i ∧ i < 2147483648)) : PR X False 90 164 [.ref 0, iv x, iv y, iv n, iv d, iv i] [.ref 170, iv x, iv y, iv n, iv d, iv i] cnt u w S V := by
  have hR2 := RR_le hR (Nat.le_succ cnt)
  obtain ⟨tl, hC, hM, hP, hZ⟩ := hR
  have hC0 := hC
  have hM0 := hM
  have hP0 := hP
  obtain ⟨c1, c2, c3, c4, c5, c6, c7, c8⟩ := hC
  obtain ⟨m1, -, -, m4, m5, m6⟩ := hM
  obtain ⟨p1, p2, p3, p4⟩ := hP
  obtain ⟨n1, n2, n3, n4⟩ := c2.1
  have hsz := p1.1
  obtain ⟨⟨lf, s1⟩, s2, s3⟩ := c5
  intro K hK
  refine y_Rm (D' := 16) (cs_orders c1 c2 p1 p4 s1 s2 s3 hx1 hy1 hn1 hd1 hi1 ?_ ?_ (fun g1 g2 r S2 V2 hE => ?_)) (by decide)
  · intros
    all_goals refine hK _ _ _ _ _ m1 (fun K2 h2 => y_Rm (D' := 16) (ms_orders m1 p1 p4 m4 hx1 hy1 hn1 hd1 hi1 ?_ ?_ ?_) (by decide))
    all_goals intros
    all_goals first | contradiction | (exfalso; omega) | exact h2 _ _ _ _ _ hR2 (fun _ => by contradiction)
  · intros
    all_goals refine hK _ _ _ _ _ m1 (fun K2 h2 => y_Rm (D' := 16) (ms_orders m1 p1 p4 m4 hx1 hy1 hn1 hd1 hi1 ?_ ?_ ?_) (by decide))
    all_goals intros
    all_goals first | contradiction | (exfalso; omega) | exact h2 _ _ _ _ _ hR2 (fun _ => by contradiction)
  · have e171 : V2 171 = V 171 := hE.2.2.2 171 (by omega) (by omega) (by omega) (by omega)
    have m1b := MdS_2 m1 hE.1
    refine hK _ _ _ _ V2 m1b (fun K2 h2 => y_Rm (D' := 16) (ms_orders m1b (by rw [e171]; exact p1) (by rw [e171]; exact p4) (by rw [e171]; exact fun i hi => MT_x (m4 i hi) (fun k a b => hE.2.2.2 k (by omega) (by omega) (by omega) (by omega))) hx1 hy1 hn1 hd1 hi1 ?_ ?_ (fun g1 g2 r2 V3 hX => ?_)) (by decide))
    · try rw [e171]
      intros; first | contradiction | omega
    · try rw [e171]
      intros; first | contradiction | omega
    · exact h2 _ _ _ _ _ (RR_s hC0 hM0 hP0 hZ hE hX) (fun q => q.elim)
set_option maxRecDepth 100000 in
set_option maxHeartbeats 4000000 in
theorem pr_release (hR : RR cnt u w S V) (hcn : cnt < 70)  : PR X True 83 149 [.ref 0] [.ref 170] cnt u w S V := by
  have hR2 := RR_le hR (Nat.le_succ cnt)
  obtain ⟨tl, hC, hM, hP, hZ⟩ := hR
  have hC0 := hC
  have hM0 := hM
  have hP0 := hP
  obtain ⟨c1, c2, c3, c4, c5, c6, c7, c8⟩ := hC
  obtain ⟨m1, -, -, m4, m5, m6⟩ := hM
  obtain ⟨p1, p2, p3, p4⟩ := hP
  obtain ⟨n1, n2, n3, n4⟩ := c2.1
  have hsz := p1.1
  have hsl : S.length ≤ 193 + 12 * cnt ∧ 193 ≤ S.length := ⟨hZ.2.1, hZ.1⟩
  obtain ⟨wa, w1, w2⟩ := c2.2.2.1
  intro K hK
  refine y_Rm (D' := 8) (cs_release c1 (by omega) c2 p1 p4 w1 w2 (fun g1 => ?_) (fun g1 V1 hRS1 hF1 => ?_)) (by decide)
  · refine hK _ _ _ _ _ m1 (fun K2 h2 => y_Rm (D' := 9) (ms_release m1 p1 p4 m4 ?_ ?_) (by decide))
    all_goals intros
    all_goals first | (exfalso; omega) | exact h2 _ _ _ _ _ hR2 (fun _ => rfl)
  · have hf : ∀ k, k = 0 ∨ k = 8 ∨ (58 ≤ k) → V1 k = V k := fun k hk => by rw [hF1 k (fun b hb => by omega), v_up_ne (by omega), v_up_ne (by omega)]
    have e171 : V1 171 = V 171 := hf 171 (by omega)
    have hs1 := rlS_SO (cnt := cnt) (tl := tl) (V 171 3).toNat 0 (relS (V 171)) (relS_SO p1) (by rw [relS_ne (by omega)]; exact p4) (fun j a b => by rw [relS_ne (by omega), relS_ne (by omega), relS_ne (by omega), relS_ne (by omega)]; exact p1.2.2.2.2.2.1 j (by omega))
    have hz0 : rlS tl (V 171 3).toNat 0 (relS (V 171)) 0 = V 171 0 := (hs1.2 0 (by omega)).trans (relS_ne (by omega))
    have hC1 := RC_x hC0 hZ.1 (SQ_rf 6 S) (SV_rf 6 S) (Or.inl rfl) hRS1 hz0 (fun k hk => hf k (by omega))
    have hM1 := RM_fr hM0 m1 (fun k a b => hf k (by omega))
    refine hK _ _ _ _ V1 m1 (fun K2 h2 => y_Rm (D' := 9) (ms_release m1 (by rw [e171]; exact p1) (by rw [e171]; exact p4) (by rw [e171]; exact hM1.2.2.2.1) ?_ ?_) (by decide))
    all_goals rw [e171]
    · intros; omega
    · intro g2 V2 a1 a2
      have hM2 := RM_x hM1 a1 hz0 (fun k a b => a2.1 k (by omega) (by omega) (by omega)) ⟨a2.2 40 (by omega), a2.2 3 (by omega)⟩
      exact h2 _ _ _ _ _ (RR_mk hC1 hM2 (fun k hk => a2.1 k (by omega) (by omega) (by omega)) (congrFun (hf 0 (by omega)) 2) (RP_x hP0 (SO_le hs1.1 (Nat.le_succ cnt)) hz0) (RZ_x (a := 0) (b := 0) hZ (by omega) (by decide) (by decide))) (fun _ => rfl)
set_option maxRecDepth 100000 in
set_option maxHeartbeats 4000000 in
theorem pr_act (hR : RR cnt u w S V) (hXb : X 1 = m_bodies) (hXa : X 2 = m_above) (h3X : X 3 = []) {x : Int} (hx1 : (-2147483648 ≤ x ∧ x < 2147483648)) {y : Int} (hy1 : (-2147483648 ≤ y ∧ y < 2147483648)) {z : Int32} : PR X True 91 173 [.ref 0, iv x, iv y, .int z] [.ref 170, iv x, iv y, .int z] cnt u w S V := by
  have hR2 := RR_le hR (Nat.le_succ cnt)
  obtain ⟨tl, hC, hM, hP, hZ⟩ := hR
  have hC0 := hC
  have hM0 := hM
  have hP0 := hP
  obtain ⟨c1, c2, c3, c4, c5, c6, c7, c8⟩ := hC
  obtain ⟨m1, -, -, m4, m5, m6⟩ := hM
  obtain ⟨p1, p2, p3, p4⟩ := hP
  obtain ⟨n1, n2, n3, n4⟩ := c2.1
  have hsz := p1.1
  intro K hK
  have hE : ∀ V1 V2 : v_V, (∀ k, k ≠ 8 → k ≠ 9 → V1 k = V k) → (0 ≤ V1 8 1 ∧ V1 8 1 ≤ 20) → (∀ k, k ≠ 170 → k ≠ 192 → V2 k = V1 k) → (∀ i, i < 40 → V2 170 i = V1 170 i) → (0 ≤ V2 170 40 ∧ V2 170 40 ≤ 20) → RR (cnt + 1) u w S V2 := by
    intro V1 V2 f1 g1 f2 f3 g2
    obtain ⟨a1, a2, a3, a4, a5, a6, a7, a8⟩ := hC0
    have hCx : RC S V1 (V 171) (V 172) tl := ⟨a1, RS_fx a2 (Or.inl rfl) f1, RS_fx a3 (Or.inr rfl) f1, a4, Se_V a5 (fun k hk => f1 k (by omega) (by omega)), g1, by rw [f1 65 (by decide) (by decide)]; exact a7, by rw [f1 0 (by decide) (by decide)]; exact a8⟩
    have hMx : RM S V2 (V 171) (V 172) tl (V 0 2) := by
      obtain ⟨b1, b2, b3, b4, b5, b6⟩ := hM0
      have e : ∀ k, 171 ≤ k → k ≤ 177 → V2 k = V k := fun k p q => (f2 k (by omega) (by omega)).trans (f1 k (by omega) (by omega))
      exact ⟨b1, e 171 (by decide) (by decide), e 172 (by decide) (by decide), fun i hi => MT_x (b4 i hi) (fun k p q => e k (by omega) (by omega)), g2, by rw [f3 3 (by decide), f1 170 (by decide) (by decide)]; exact b6⟩
    exact RR_mk hCx hMx (fun k hk => f2 k (by omega) (by omega)) (congrFun (f1 0 (by decide) (by decide)) 2) (RP_le hP0 (Nat.le_succ cnt)) (RZ_x (a := 0) (b := 0) hZ (by omega) (by decide) (by decide))
  have hL : ∀ V1 : v_V, (∀ k, k ≠ 8 → k ≠ 9 → V1 k = V k) → (0 ≤ V1 8 1 ∧ V1 8 1 ≤ 20) → ∀ r : Int, (¬ ((0 ≤ x ∧ x < V 171 1) ∧ (0 ≤ y ∧ y ≤ 2)) → r = 0) → (((0 ≤ x ∧ x < V 171 1) ∧ (0 ≤ y ∧ y ≤ 2)) → r = (acV (V 171 (170 + x.toNat)).toNat y.toNat z ((x.toNat : Nat) : Int) ((tl (V 171 (178 + x.toNat)).toNat).length : Int)).toInt) → K u w (some (iv r)) S V1 := by
    intro V1 f1 g1 r r0 r1
    have e171 : V1 171 = V 171 := f1 171 (by decide) (by decide)
    refine hK r _ _ _ V1 m1 (fun K2 h2 => y_Rm (D' := 13) (ms_act m1 (by rw [e171]; exact p1) (by rw [e171]; exact p4) (by rw [e171]; exact fun i hi => MT_x (m4 i hi) (fun k a b => f1 k (by omega) (by omega))) hx1 hy1 ?_ ?_) (by decide))
    all_goals rw [e171]
    · intro q
      exact h2 0 _ _ _ _ (hE V1 _ f1 g1 (fun k a b => v_up_ne a) (fun i hi => v_up_ni (by omega)) (by rw [v_up_eq]; decide)) (fun _ => (r0 q).symm)
    · intro q V2 f2 f3 g2
      rw [← v_oi]
      exact h2 _ _ _ _ _ (hE V1 V2 f1 g1 f2 f3 g2) (fun _ => (r1 q).symm)
  refine y_Rm (D' := 31) (cs_act c1 c2 p1 p4 hx1 hy1 hXb hXa h3X ?_ ?_) (by decide)
  · intro q
    exact hL _ (fun k a b => v_up_ne a) (by rw [v_up_eq]; decide) 0 (fun _ => rfl) (fun q2 => absurd q2 q)
  · intro q V1 f1 g1
    rw [← v_oi]
    exact hL V1 f1 g1 _ (fun q2 => absurd q q2) (fun _ => rfl)
end
