/-! pairs of calls: copy, image, undo -/
theorem k_RN {V : v_V} {σ : Nat → Int} {X : Nat} {e : Int} (h : RN V 1 σ) (hX : X < 8) : RN (v_up V (10 + 6 * X) 4 e) 1 (v_uf σ (872 + X) e) := by
  have hs : ∀ j, j ≠ 872 + X → v_uf σ (872 + X) e j = σ j := fun j hj => v_uf_ne hj
  refine RN_b h ?_ (fun k hk => v_up_ne (by omega)) (fun j hj => hs j (by omega)) (fun b hb => ?_)
  · unfold N7
    rw [v_up_ne (by omega), hs 0 (by omega), hs 1 (by omega), hs 2 (by omega), hs 3 (by omega), hs 4 (by omega), hs 5 (by omega), hs 6 (by omega)]
    exact h.1
  · obtain ⟨d1, d2, d3, d4, d5, d6, d7, d8⟩ := h.2.2.2 b hb
    unfold BxN
    have hv : ∀ i, i ≠ 4 → v_up V (10 + 6 * X) 4 e (10 + 6 * b) i = V (10 + 6 * b) i := fun i hi => by
      by_cases hb2 : b = X
      · rw [hb2, v_up_ni hi]
      · rw [v_up_ne (by omega)]
    rw [hv 0 (by decide), hv 1 (by decide), hv 2 (by decide), hv 3 (by decide), v_up_ne (show 10 + 6 * b + 1 ≠ 10 + 6 * X by omega), v_up_ne (show 10 + 6 * b + 3 ≠ 10 + 6 * X by omega), v_up_ne (show 10 + 6 * b + 5 ≠ 10 + 6 * X by omega), hs 1 (by omega), hs (170 + b) (by omega), hs (178 + b) (by omega), hs (186 + b) (by omega)]
    refine ⟨d1, d2, d3, d4, ?_, fun t ht => by rw [hs _ (by omega)]; exact d6 t ht, fun i hi => by rw [hs _ (by omega)]; exact d7 i hi, fun i hi => by rw [hs _ (by omega)]; exact d8 i hi⟩
    by_cases hb2 : b = X
    · rw [hb2, v_up_eq, v_uf_eq]
    · rw [v_up_ne (by omega), hs _ (by omega)]
      exact d5
theorem k_SO {cnt : Nat} {σ : Nat → Int} {X : Nat} {e : Int} (h : SO cnt σ) (hX : X < 8) (he : 0 ≤ e ∧ e ≤ cnt) : SO cnt (v_uf σ (872 + X) e) := by
  have hs : ∀ j, j ≠ 872 + X → v_uf σ (872 + X) e j = σ j := fun j hj => v_uf_ne hj
  refine SO_b h ?_ (fun j hj => hs j (by omega)) (by rw [hs 1 (by omega)]; exact Int.le_refl _) (hs 2 (by omega)) (hs 3 (by omega)) (hs 5 (by omega)) (fun b hb => ?_) (fun b hb t ht => ?_)
  · unfold O7
    rw [hs 0 (by omega), hs 1 (by omega), hs 2 (by omega), hs 3 (by omega), hs 4 (by omega), hs 5 (by omega), hs 6 (by omega)]
    exact h.1
  · have o := h.2.2.1 b hb
    unfold Ob
    rw [hs (170 + b) (by omega), hs (178 + b) (by omega), hs (186 + b) (by omega), hs 1 (by omega), hs 0 (by omega)]
    refine ⟨o.1, o.2.1, o.2.2.1, ?_, fun i hi => ?_, fun i hi => ?_⟩
    · by_cases hb2 : b = X
      · rw [hb2, v_uf_eq]
        exact he
      · rw [hs _ (by omega)]
        exact o.2.2.2.1
    · show -2147483648 ≤ v_uf σ (872 + X) e (200 + 84 * b + i) ∧ v_uf σ (872 + X) e (200 + 84 * b + i) < 2147483648
      rw [hs _ (by omega)]
      exact o.2.2.2.2.1 i hi
    · show -2147483648 ≤ v_uf σ (872 + X) e (880 + 84 * b + i) ∧ v_uf σ (872 + X) e (880 + 84 * b + i) < 2147483648
      rw [hs _ (by omega)]
      exact o.2.2.2.2.2 i hi
  · rw [hs _ (by omega), hs 1 (by omega)]
    exact h.2.2.2.1 b hb t ht
/-- a state becomes the other one -/
theorem RS_cp {S S' : m_H} {V V' : v_V} {B B' : Nat} {σ : Nat → Int} {tl : Nat → List p_Li} {ta tb wa wb la lb : List Value} (h : RS S V B' σ tl) (hB : (B = 1 ∧ B' = 58) ∨ (B = 58 ∧ B' = 1)) (hta : ce S (B' + 2) 22 ta) (htb : ce S (B + 2) 22 tb) (hwa : ce S (B' + 5) 24 wa) (hwb : ce S (B + 5) 24 wb) (hla : ce S (B' + 6) 24 la) (hlb : ce S (B + 6) 24 lb) (e : S' = ((S.set (B + 2) (22, ta)).set (B + 5) (24, wa)).set (B + 6) (24, la)) (hV : CpV B B' V V') : RS S' V' B σ tl ∧ RS S' V' B' σ tl := by
  have hlo : ∀ k, k < B ∨ B + 57 ≤ k → V' k = V k := hV.2.2.2.2.2.2
  have hhi : ∀ k, 193 ≤ k → V' k = V k := fun k hk => hlo k (by omega)
  have q1 : SQ (B + 2) S (S.set (B + 2) (22, ta)) := SQ_set htb (by decide)
  have wb1 : ce (S.set (B + 2) (22, ta)) (B + 5) 24 wb := ce_ne hwb (by omega)
  have q2 : SQ (B + 5) (S.set (B + 2) (22, ta)) ((S.set (B + 2) (22, ta)).set (B + 5) (24, wa)) := SQ_set wb1 (by decide)
  have lb1 : ce ((S.set (B + 2) (22, ta)).set (B + 5) (24, wa)) (B + 6) 24 lb := ce_ne (ce_ne hlb (by omega)) (by omega)
  have q3 : SQ (B + 6) ((S.set (B + 2) (22, ta)).set (B + 5) (24, wa)) S' := by rw [e]; exact SQ_set lb1 (by decide)
  have hA : ∀ t v, v_asg S t v → v_asg S' t v := fun t v hv => q3.2 t v (q2.2 t v (q1.2 t v hv))
  have hc : ∀ k t vs, k ≠ B + 2 → k ≠ B + 5 → k ≠ B + 6 → ce S k t vs → ce S' k t vs := fun k t vs a b c d => q3.1 _ _ _ c (q2.1 _ _ _ b (q1.1 _ _ _ a d))
  have hT : ∀ t, 193 ≤ t → TxS S t → TxS S' t := fun t ht hx => TxS_q q3 (by omega) ht (TxS_q q2 (by omega) ht (TxS_q q1 (by omega) ht hx))
  have eta : ce S' (B + 2) 22 ta := by rw [e]; exact ce_ne (ce_ne (ce_eq htb) (by omega)) (by omega)
  have ewa : ce S' (B + 5) 24 wa := by rw [e]; exact ce_ne (ce_eq wb1) (by omega)
  have ela : ce S' (B + 6) 24 la := by rw [e]; exact ce_eq lb1
  have same : ∀ {k t : Nat} {vs ws : List Value}, ce S k t vs → ce S k t ws → vs = ws := by
    intro k t vs ws a b
    have e := a.2.symm.trans b.2
    simp only [Option.some.injEq, Prod.mk.injEq] at e
    exact e.2
  obtain ⟨hN, ⟨ta', t1, t2, t3, t4⟩, ⟨wa', w1, w2⟩, ⟨la', l1, l2⟩⟩ := h
  obtain rfl := same hta t1
  obtain rfl := same hwa w1
  obtain rfl := same hla l1
  have hP : ∀ (vs : List Value) (N q : Nat) (lim : Int), PkA S V vs N lim σ q → PkA S' V' vs N lim σ q := by
    intro vs N q lim ⟨a1, a2, a3⟩
    refine ⟨a1, fun v hv => hA _ _ (a2 v hv), fun i hi => ?_⟩
    obtain ⟨pk, b1, b2, b3⟩ := a3 i hi
    have b4 := PkS_r b3 (hhi pk b2)
    exact ⟨pk, b1, b2, hc _ _ _ (by omega) (by omega) (by omega) b4.1, b4.2⟩
  have hTT : ∀ i : Nat, (i : Int) < σ 0 → ∃ t : Nat, m_nth ta i = some (.ref t) ∧ 193 ≤ t ∧ TxS S' t ∧ CT V' t (tl i) := fun i hi => by
    obtain ⟨t, b1, b2, b3, b4⟩ := t4 i hi
    exact ⟨t, b1, b2, hT t b2 b3, CT_hi hhi b2 b4⟩
  refine ⟨⟨?_, ⟨ta, eta, t2, fun v hv => hA _ _ (t3 v hv), hTT⟩, ⟨wa, ewa, hP _ _ _ _ w2⟩, ⟨la, ela, hP _ _ _ _ l2⟩⟩, ⟨RN_fr hN (fun k a b => hlo k (by omega)), ⟨ta, hc _ _ _ (by omega) (by omega) (by omega) hta, t2, fun v hv => hA _ _ (t3 v hv), hTT⟩, ⟨wa, hc _ _ _ (by omega) (by omega) (by omega) hwa, hP _ _ _ _ w2⟩, ⟨la, hc _ _ _ (by omega) (by omega) (by omega) hla, hP _ _ _ _ l2⟩⟩⟩
  obtain ⟨v1, v2, v3, v4, v5, v6, v7⟩ := hV
  obtain ⟨h1, h2, h3, h4⟩ := hN
  refine ⟨by rw [v1 1 rfl, v1 3 rfl, v1 5 rfl, v1 7 rfl, v1 9 rfl, v1 10 rfl, v1 12 rfl]; exact h1, by rw [v2]; exact h2, by rw [v3]; exact h3, fun b hb => ?_⟩
  obtain ⟨x1, x2, x3, x4⟩ := v6 b hb
  have := h4 b hb
  unfold BxN at *
  rw [x1, x2, x3, x4]
  exact this
section
variable {X : Nat → List Int32} {u w cnt : Nat} {S : m_H} {V : v_V}
set_option maxRecDepth 100000 in
set_option maxHeartbeats 4000000 in
theorem pr_copy (hR : RR cnt u w S V) (hcn : cnt < 70) {x : Int} (hx1 : (-2147483648 ≤ x ∧ x < 2147483648)) : PR X True 85 151 [.ref 0, iv x] [.ref 170, iv x] cnt u w S V := by
  have hR2 := RR_le hR (Nat.le_succ cnt)
  obtain ⟨tl, hC, hM, hP, hZ⟩ := hR
  have hC0 := hC
  have hM0 := hM
  have hP0 := hP
  obtain ⟨c1, c2, c3, c4, c5, c6, c7, c8⟩ := hC
  obtain ⟨m1, -, -, m4, m5, m6⟩ := hM
  obtain ⟨p1, p2, p3, p4⟩ := hP
  obtain ⟨n1, n2, n3, n4⟩ := c2.1
  have hsz := p1.1
  have hkc : ∀ b : Nat, b < 8 → 0 ≤ V (10 + 6 * b) 4 ∧ V (10 + 6 * b) 4 < 2147483647 := fun b hb => by
    have h5 : V (10 + 6 * b) 4 = V 171 (872 + b) := (n4 b hb).2.2.2.2.1
    have := (p1.2.2.1 b hb).2.2.2.1
    omega
  have hkm : ∀ b : Nat, b < 8 → 0 ≤ V 171 (872 + b) ∧ V 171 (872 + b) < 2147483647 := fun b hb => by
    have := (p1.2.2.1 b hb).2.2.2.1
    omega
  intro K hK
  refine y_Rm (D' := 2) (cs_copy c1 (by omega) hx1 hkc (fun g1 => ?_) (fun g1 => ?_)) (by decide)
  · refine hK _ _ _ _ _ m1 (fun K2 h2 => y_Rm (D' := 3) (ms_copy m1 (by omega) hx1 hkm ?_ ?_) (by decide))
    all_goals intros
    all_goals first | (exfalso; omega) | exact h2 _ _ _ _ _ hR2 (fun _ => rfl)
  · have hX : x.toNat < 8 := by omega
    have e4 : V (10 + 6 * x.toNat) 4 = V 171 (872 + x.toNat) := (n4 _ hX).2.2.2.2.1
    have hk9 := (p1.2.2.1 _ hX).2.2.2.1
    have f171 : (v_up (v_ur V (10 + 6 * x.toNat + 5) (V (10 + 6 * x.toNat + 3))) (10 + 6 * x.toNat) 4 (V (10 + 6 * x.toNat) 4 + 1)) 171 = V 171 := (v_up_ne (by omega)).trans (v_ur_ne (by omega))
    have hs : ∀ j, (j < 200 ∨ 1690 ≤ j) → v_uf (v_cp (V 171) (V 171) (200 + 84 * x.toNat) (880 + 84 * x.toNat) 84) (872 + x.toNat) (V (10 + 6 * x.toNat) 4 + 1) j = V 171 j := fun j hj => (v_uf_ne (by omega)).trans (if_neg (by omega))
    refine hK _ _ _ _ _ m1 (fun K2 h2 => y_Rm (D' := 3) (ms_copy m1 (by rw [f171]; omega) hx1 (by rw [f171]; exact hkm) ?_ ?_) (by decide))
    all_goals rw [f171]
    · intro j1
      rw [← e4]
      exact h2 _ _ _ _ _ (RR_n hC0 hM0 hP0 hZ (k_RN (cp_RN c2.1 hX (Or.inl ⟨rfl, rfl, rfl, rfl⟩)) hX) (k_SO (SO_le (cp_SO p1 hX (Or.inl ⟨rfl, rfl⟩)) (Nat.le_succ cnt)) hX (by rw [e4]; omega)) (fun k hk => by rw [v_up_ne (by omega), v_ur_ne (by omega)]) (hs 0 (by omega)) (hs 3 (by omega)) (hs 5 (by omega)) (fun j hj => hs j (by omega)) ((v_upR _ _ _ _).trans (by rw [v_ur_eq])) (fun k hk => by rw [v_up_ne hk, v_ur_ne hk])) (fun _ => rfl)
    · intros; exfalso; omega
end
