/-! pairs of calls: box -/
/-- the row of numbers with a BOX more -/
def bxR (σ : Nat → Int) (n : Nat) (y x : Int) : Nat → Int := v_uf (z_fl (z_fl (z_fl (v_uf (v_uf (v_uf (v_uf σ (170 + n) y) (178 + n) x) (186 + n) (-5)) (872 + n) 0) (200 + 84 * n) 84 0) (880 + 84 * n) 84 0) (1552 + 16 * n) 16 n) 1 ((n : Int) + 1)
theorem bxR_ne {σ : Nat → Int} {n : Nat} {y x : Int} {j : Nat} (h : j ≠ 170 + n ∧ j ≠ 178 + n ∧ j ≠ 186 + n ∧ j ≠ 872 + n ∧ j ≠ 1) (h2 : ¬ (200 + 84 * n ≤ j ∧ j < 200 + 84 * n + 84) ∧ ¬ (880 + 84 * n ≤ j ∧ j < 880 + 84 * n + 84) ∧ ¬ (1552 + 16 * n ≤ j ∧ j < 1552 + 16 * n + 16)) : bxR σ n y x j = σ j := by
  unfold bxR z_fl
  rw [v_uf_ne h.2.2.2.2, if_neg h2.2.2, if_neg h2.2.1, if_neg h2.1, v_uf_ne h.2.2.2.1, v_uf_ne h.2.2.1, v_uf_ne h.2.1, v_uf_ne h.1]
theorem bxR_at {σ : Nat → Int} {n : Nat} {y x : Int} (hn : n < 8) : bxR σ n y x 1 = (n : Int) + 1 ∧ bxR σ n y x (170 + n) = y ∧ bxR σ n y x (178 + n) = x ∧ bxR σ n y x (186 + n) = -5 ∧ bxR σ n y x (872 + n) = 0 ∧ (∀ t, t < 16 → bxR σ n y x (1552 + 16 * n + t) = n) ∧ (∀ p, p < 84 → bxR σ n y x (200 + 84 * n + p) = 0) ∧ (∀ p, p < 84 → bxR σ n y x (880 + 84 * n + p) = 0) := by
  unfold bxR z_fl
  refine ⟨v_uf_eq _ _ _, ?_, ?_, ?_, ?_, fun t ht => ?_, fun p hp => ?_, fun p hp => ?_⟩
  · rw [v_uf_ne (by omega), if_neg (by omega), if_neg (by omega), if_neg (by omega), v_uf_ne (by omega), v_uf_ne (by omega), v_uf_ne (by omega), v_uf_eq]
  · rw [v_uf_ne (by omega), if_neg (by omega), if_neg (by omega), if_neg (by omega), v_uf_ne (by omega), v_uf_ne (by omega), v_uf_eq]
  · rw [v_uf_ne (by omega), if_neg (by omega), if_neg (by omega), if_neg (by omega), v_uf_ne (by omega), v_uf_eq]
  · rw [v_uf_ne (by omega), if_neg (by omega), if_neg (by omega), if_neg (by omega), v_uf_eq]
  · rw [v_uf_ne (by omega), if_pos (by omega)]
  · rw [v_uf_ne (by omega), if_neg (by omega), if_neg (by omega), if_pos (by omega)]
  · rw [v_uf_ne (by omega), if_neg (by omega), if_pos (by omega)]
abbrev bxV (V : v_V) (n : Nat) (y x : Int) : v_V := v_up (v_ur (v_ur (v_ur (v_up (v_up (v_up (v_up (v_up V (10 + 6 * n) 0 (n : Int)) (10 + 6 * n) 1 y) (10 + 6 * n) 2 x) (10 + 6 * n) 3 (-5)) (10 + 6 * n) 4 0) (10 + 6 * n + 1) (fun _ => (n : Int))) (10 + 6 * n + 3) (fun _ => 0)) (10 + 6 * n + 5) (fun _ => 0)) 1 5 ((n : Int) + 1)
theorem bxV_ne {V : v_V} {n : Nat} {y x : Int} {k : Nat} (h1 : k ≠ 1) (h : k ≠ 10 + 6 * n ∧ k ≠ 10 + 6 * n + 1 ∧ k ≠ 10 + 6 * n + 3 ∧ k ≠ 10 + 6 * n + 5) : bxV V n y x k = V k := by
  unfold bxV
  rw [v_up_ne h1, v_ur_ne h.2.2.2, v_ur_ne h.2.2.1, v_ur_ne h.2.1, v_up_ne h.1, v_up_ne h.1, v_up_ne h.1, v_up_ne h.1, v_up_ne h.1]
theorem bxV_1 {V : v_V} {n : Nat} {y x : Int} {i : Nat} (hi : i ≠ 5) : bxV V n y x 1 i = V 1 i := by
  unfold bxV
  rw [v_up_ni hi, v_ur_ne (by omega), v_ur_ne (by omega), v_ur_ne (by omega), v_up_ne (by omega), v_up_ne (by omega), v_up_ne (by omega), v_up_ne (by omega), v_up_ne (by omega)]
theorem bxV_at {V : v_V} {n : Nat} {y x : Int} : bxV V n y x (10 + 6 * n) 0 = n ∧ bxV V n y x (10 + 6 * n) 1 = y ∧ bxV V n y x (10 + 6 * n) 2 = x ∧ bxV V n y x (10 + 6 * n) 3 = -5 ∧ bxV V n y x (10 + 6 * n) 4 = 0 ∧ (∀ t, bxV V n y x (10 + 6 * n + 1) t = n) ∧ (∀ t, bxV V n y x (10 + 6 * n + 3) t = 0) ∧ (∀ t, bxV V n y x (10 + 6 * n + 5) t = 0) := by
  unfold bxV
  refine ⟨?_, ?_, ?_, ?_, ?_, fun t => ?_, fun t => ?_, fun t => ?_⟩
  · rw [v_up_ne (by omega), v_ur_ne (by omega), v_ur_ne (by omega), v_ur_ne (by omega), v_up_ni (by decide), v_up_ni (by decide), v_up_ni (by decide), v_up_ni (by decide), v_up_eq]
  · rw [v_up_ne (by omega), v_ur_ne (by omega), v_ur_ne (by omega), v_ur_ne (by omega), v_up_ni (by decide), v_up_ni (by decide), v_up_ni (by decide), v_up_eq]
  · rw [v_up_ne (by omega), v_ur_ne (by omega), v_ur_ne (by omega), v_ur_ne (by omega), v_up_ni (by decide), v_up_ni (by decide), v_up_eq]
  · rw [v_up_ne (by omega), v_ur_ne (by omega), v_ur_ne (by omega), v_ur_ne (by omega), v_up_ni (by decide), v_up_eq]
  · rw [v_up_ne (by omega), v_ur_ne (by omega), v_ur_ne (by omega), v_ur_ne (by omega), v_up_eq]
  · rw [v_up_ne (by omega), v_ur_ne (by omega), v_ur_ne (by omega), v_ur_eq]
  · rw [v_up_ne (by omega), v_ur_ne (by omega), v_ur_eq]
  · rw [v_up_ne (by omega), v_ur_eq]
theorem bx_RN {V : v_V} {σ : Nat → Int} {n : Nat} {y x : Int} (h : RN V 1 σ) (hn : n < 8) (h1 : σ 1 = (n : Int)) : RN (bxV V n y x) 1 (bxR σ n y x) := by
  obtain ⟨⟨a1, a2, a3, a4, a5, a6, a7⟩, h2, h3, h4⟩ := h
  have f : ∀ i, i ≠ 5 → bxV V n y x 1 i = V 1 i := fun i hi => bxV_1 hi
  have g : ∀ j, j < 10 → j ≠ 1 → bxR σ n y x j = σ j := fun j a b => bxR_ne ⟨by omega, by omega, by omega, by omega, b⟩ ⟨by omega, by omega, by omega⟩
  have at1 := bxR_at (σ := σ) (y := y) (x := x) hn
  have at2 := bxV_at (V := V) (n := n) (y := y) (x := x)
  refine RN_b ⟨⟨a1, a2, a3, a4, a5, a6, a7⟩, h2, h3, h4⟩ ⟨?_, ?_, ?_, ?_, ?_, ?_, ?_⟩ (fun k hk => bxV_ne (by omega) ⟨by omega, by omega, by omega, by omega⟩) (fun j hj => bxR_ne ⟨by omega, by omega, by omega, by omega, by omega⟩ ⟨by omega, by omega, by omega⟩) (fun b hb => ?_)
  · rw [f 1 (by decide), g 6 (by decide) (by decide)]; exact a1
  · rw [f 3 (by decide), g 0 (by decide) (by decide)]; exact a2
  · rw [at1.1]; exact v_up_eq _ _ _ _
  · rw [f 7 (by decide), g 2 (by decide) (by decide)]; exact a4
  · rw [f 9 (by decide), g 3 (by decide) (by decide)]; exact a5
  · rw [f 10 (by decide), g 4 (by decide) (by decide)]; exact a6
  · rw [f 12 (by decide), g 5 (by decide) (by decide)]; exact a7
  · by_cases e : b = n
    · subst e
      unfold BxN
      rw [at1.2.1, at1.2.2.1, at1.2.2.2.1, at1.2.2.2.2.1]
      exact ⟨fun _ => at2.1, at2.2.1, at2.2.2.1, at2.2.2.2.1, at2.2.2.2.2.1, fun t ht => by rw [at1.2.2.2.2.2.1 t ht]; exact at2.2.2.2.2.2.1 t, fun p hp => by rw [at1.2.2.2.2.2.2.1 p hp]; exact at2.2.2.2.2.2.2.1 p, fun p hp => by rw [at1.2.2.2.2.2.2.2 p hp]; exact at2.2.2.2.2.2.2.2 p⟩
    · obtain ⟨d1, d2, d3, d4, d5, d6, d7, d8⟩ := h4 b hb
      have k : ∀ d, d ≤ 5 → bxV V n y x (10 + 6 * b + d) = V (10 + 6 * b + d) := fun d hd => bxV_ne (by omega) ⟨by omega, by omega, by omega, by omega⟩
      have k0 := k 0 (by decide)
      rw [Nat.add_zero] at k0
      have r : ∀ j, (∃ q, q < 8 ∧ q ≠ n ∧ ((j = 170 + q ∨ j = 178 + q ∨ j = 186 + q ∨ j = 872 + q) ∨ (∃ p, p < 84 ∧ (j = 200 + 84 * q + p ∨ j = 880 + 84 * q + p)) ∨ ∃ t, t < 16 ∧ j = 1552 + 16 * q + t)) → bxR σ n y x j = σ j := by
        rintro j ⟨q, q1, q2, q3 | ⟨p, p1, p2⟩ | ⟨t, t1, t2⟩⟩
        all_goals exact bxR_ne ⟨by omega, by omega, by omega, by omega, by omega⟩ ⟨by omega, by omega, by omega⟩
      unfold BxN
      rw [k0, k 1 (by decide), k 3 (by decide), k 5 (by decide), at1.1, r _ ⟨b, hb, e, Or.inl (Or.inl rfl)⟩, r _ ⟨b, hb, e, Or.inl (Or.inr (Or.inl rfl))⟩, r _ ⟨b, hb, e, Or.inl (Or.inr (Or.inr (Or.inl rfl)))⟩, r _ ⟨b, hb, e, Or.inl (Or.inr (Or.inr (Or.inr rfl)))⟩]
      exact ⟨fun hq => d1 (by omega), d2, d3, d4, d5, fun t ht => by rw [r _ ⟨b, hb, e, Or.inr (Or.inr ⟨t, ht, rfl⟩)⟩]; exact d6 t ht, fun p hp => by rw [r _ ⟨b, hb, e, Or.inr (Or.inl ⟨p, hp, Or.inl rfl⟩)⟩]; exact d7 p hp, fun p hp => by rw [r _ ⟨b, hb, e, Or.inr (Or.inl ⟨p, hp, Or.inr rfl⟩)⟩]; exact d8 p hp⟩
theorem bx_SO {cnt : Nat} {σ : Nat → Int} {n : Nat} {y x : Int} (h : SO cnt σ) (hn : n < 8) (h1 : σ 1 = (n : Int)) (hy : 0 ≤ y ∧ y ≤ 6) (hx : 0 ≤ x ∧ x < σ 0) : SO cnt (bxR σ n y x) := by
  have g : ∀ j, j < 10 → j ≠ 1 → bxR σ n y x j = σ j := fun j a b => bxR_ne ⟨by omega, by omega, by omega, by omega, b⟩ ⟨by omega, by omega, by omega⟩
  have at1 := bxR_at (σ := σ) (y := y) (x := x) hn
  have hsz := h.1
  refine SO_b h ?_ (fun j hj => bxR_ne ⟨by omega, by omega, by omega, by omega, by omega⟩ ⟨by omega, by omega, by omega⟩) (by rw [at1.1]; omega) (g 2 (by decide) (by decide)) (g 3 (by decide) (by decide)) (g 5 (by decide) (by decide)) (fun b hb => ?_) (fun b hb t ht => ?_)
  · unfold O7
    rw [g 0 (by decide) (by decide), at1.1, g 2 (by decide) (by decide), g 3 (by decide) (by decide), g 4 (by decide) (by decide), g 5 (by decide) (by decide), g 6 (by decide) (by decide)]
    omega
  · by_cases e : b = n
    · subst e
      unfold Ob
      rw [at1.2.1, at1.2.2.1, at1.2.2.2.1, at1.2.2.2.2.1, g 0 (by decide) (by decide), at1.1]
      refine ⟨by omega, by omega, by omega, by omega, fun p hp => ?_, fun p hp => ?_⟩
      · show -2147483648 ≤ bxR σ b y x (200 + 84 * b + p) ∧ bxR σ b y x (200 + 84 * b + p) < 2147483648
        rw [at1.2.2.2.2.2.2.1 p hp]; decide
      · show -2147483648 ≤ bxR σ b y x (880 + 84 * b + p) ∧ bxR σ b y x (880 + 84 * b + p) < 2147483648
        rw [at1.2.2.2.2.2.2.2 p hp]; decide
    · obtain ⟨o1, o2, o3, o4, o5, o6⟩ := h.2.2.1 b hb
      have r : ∀ j, (j = 170 + b ∨ j = 178 + b ∨ j = 186 + b ∨ j = 872 + b) → bxR σ n y x j = σ j := fun j hj => bxR_ne ⟨by omega, by omega, by omega, by omega, by omega⟩ ⟨by omega, by omega, by omega⟩
      have r2 : ∀ p, p < 84 → bxR σ n y x (200 + 84 * b + p) = σ (200 + 84 * b + p) ∧ bxR σ n y x (880 + 84 * b + p) = σ (880 + 84 * b + p) := fun p hp => ⟨bxR_ne ⟨by omega, by omega, by omega, by omega, by omega⟩ ⟨by omega, by omega, by omega⟩, bxR_ne ⟨by omega, by omega, by omega, by omega, by omega⟩ ⟨by omega, by omega, by omega⟩⟩
      unfold Ob
      rw [r (170 + b) (Or.inl rfl), r (178 + b) (Or.inr (Or.inl rfl)), r (186 + b) (Or.inr (Or.inr (Or.inl rfl))), r (872 + b) (Or.inr (Or.inr (Or.inr rfl))), g 0 (by decide) (by decide), at1.1]
      refine ⟨o1, ⟨o2.1, o2.2.1, fun q => o2.2.2 (by omega)⟩, o3, o4, fun p hp => ?_, fun p hp => ?_⟩
      · show -2147483648 ≤ bxR σ n y x (200 + 84 * b + p) ∧ bxR σ n y x (200 + 84 * b + p) < 2147483648
        rw [(r2 p hp).1]; exact o5 p hp
      · show -2147483648 ≤ bxR σ n y x (880 + 84 * b + p) ∧ bxR σ n y x (880 + 84 * b + p) < 2147483648
        rw [(r2 p hp).2]; exact o6 p hp
  · rw [at1.1]
    by_cases e : b = n
    · subst e
      rw [at1.2.2.2.2.2.1 t ht]
      omega
    · have o := h.2.2.2.1 b hb t ht
      rw [show bxR σ n y x (1552 + 16 * b + t) = σ (1552 + 16 * b + t) from bxR_ne ⟨by omega, by omega, by omega, by omega, by omega⟩ ⟨by omega, by omega, by omega⟩]
      refine ⟨o.1, o.2.1, fun q => ?_⟩
      have := o.2.2 (by omega)
      omega
section
variable {X : Nat → List Int32} {u w cnt : Nat} {S : m_H} {V : v_V}
set_option maxRecDepth 100000 in
set_option maxHeartbeats 4000000 in
theorem pr_box (hR : RR cnt u w S V) {y : Int} (hy1 : (-2147483648 ≤ y ∧ y < 2147483648)) {x : Int} (hx1 : (-2147483648 ≤ x ∧ x < 2147483648)) : PR X True 74 136 [.ref 0, iv y, iv x] [.ref 170, iv y, iv x] cnt u w S V := by
  have hR2 := RR_le hR (Nat.le_succ cnt)
  obtain ⟨tl, hC, hM, hP, hZ⟩ := hR
  have hC0 := hC
  have hM0 := hM
  have hP0 := hP
  obtain ⟨c1, c2, c3, c4, c5, c6, c7, c8⟩ := hC
  obtain ⟨m1, -, -, m4, m5, m6⟩ := hM
  obtain ⟨p1, p2, p3, p4⟩ := hP
  obtain ⟨n1, n2, n3, n4⟩ := c2.1
  have hsz := p1.1
  obtain ⟨n, hn⟩ : ∃ n : Nat, V 171 1 = (n : Int) := ⟨(V 171 1).toNat, by omega⟩
  have hn8 : n ≤ 8 := by omega
  have hv5 : V 1 5 = (n : Int) := n1.2.2.1.trans hn
  have hT0 : 0 ≤ V 171 0 ∧ V 171 0 ≤ 8 := hsz.1
  obtain ⟨ta, hT, hTt⟩ := TAx_RT c2.2.1 c2.1 p1
  intro K hK
  refine y_Rm (D' := 4) (cs_box c1 hT ⟨hv5, hn8⟩ hy1 hx1 (fun g1 => ?_) (fun g1 g2 => ?_) (fun g1 g2 g3 => ?_) (fun t1 g1 g2 g3 g4 g5 g6 g7 => ?_) (fun t1 g1 g2 g3 g4 g5 g6 g7 => ?_)) (by decide)
  · refine hK _ _ _ _ _ m1 (fun K2 h2 => y_Rm (D' := 3) (ms_box m1 hT0 ⟨hn, hn8⟩ hy1 hx1 ?_ ?_ ?_) (by decide))
    all_goals intros
    all_goals first | (exfalso; omega) | exact h2 _ _ _ _ _ hR2 (fun _ => rfl)
  · refine hK _ _ _ _ _ m1 (fun K2 h2 => y_Rm (D' := 3) (ms_box m1 hT0 ⟨hn, hn8⟩ hy1 hx1 ?_ ?_ ?_) (by decide))
    all_goals intros
    all_goals first | (exfalso; omega) | exact h2 _ _ _ _ _ hR2 (fun _ => rfl)
  · refine hK _ _ _ _ _ m1 (fun K2 h2 => y_Rm (D' := 3) (ms_box m1 hT0 ⟨hn, hn8⟩ hy1 hx1 ?_ ?_ ?_) (by decide))
    all_goals intros
    all_goals first | (exfalso; omega) | exact h2 _ _ _ _ _ hR2 (fun _ => rfl)
  · have f171 : bxV V n y x 171 = V 171 := bxV_ne (by decide) ⟨by omega, by omega, by omega, by omega⟩
    have h0 : bxR (V 171) n y x 0 = V 171 0 := bxR_ne ⟨by omega, by omega, by omega, by omega, by omega⟩ ⟨by omega, by omega, by omega⟩
    have h3 : bxR (V 171) n y x 3 = V 171 3 := bxR_ne ⟨by omega, by omega, by omega, by omega, by omega⟩ ⟨by omega, by omega, by omega⟩
    have h5 : bxR (V 171) n y x 5 = V 171 5 := bxR_ne ⟨by omega, by omega, by omega, by omega, by omega⟩ ⟨by omega, by omega, by omega⟩
    refine hK _ _ _ _ _ m1 (fun K2 h2 => y_Rm (D' := 3) (ms_box (V := bxV V n y x) m1 (by rw [f171]; exact hT0) ⟨by rw [f171]; exact hn, hn8⟩ hy1 hx1 ?_ ?_ ?_) (by decide))
    all_goals try rw [f171]
    · intros; exfalso; omega
    · intros; exfalso; omega
    · intro j1 j2
      refine h2 _ _ _ _ _ (RR_n (σ' := bxR (V 171) n y x) hC0 hM0 hP0 hZ (bx_RN c2.1 j2 hn) (SO_le (bx_SO p1 j2 hn (by omega) (by omega)) (Nat.le_succ cnt)) (fun k hk => bxV_ne (by omega) ⟨by omega, by omega, by omega, by omega⟩) h0 h3 h5 (fun j hj => bxR_ne ⟨by omega, by omega, by omega, by omega, by omega⟩ ⟨by omega, by omega, by omega⟩) ?_ (fun k hk => by rw [v_up_ne hk, v_ur_ne hk, v_ur_ne hk, v_up_ne hk, v_up_ne hk, v_up_ne hk, v_up_ne hk])) (fun _ => by omega)
      unfold bxR
      rw [v_upR, v_ur_eq, v_ur_eq, v_upR, v_upR, v_upR, v_upR, f171]
  · refine hK _ _ _ _ _ m1 (fun K2 h2 => y_Rm (D' := 3) (ms_box m1 hT0 ⟨hn, hn8⟩ hy1 hx1 ?_ ?_ ?_) (by decide))
    all_goals intros
    all_goals first | (exfalso; omega) | exact h2 _ _ _ _ _ hR2 (fun _ => rfl)
end
