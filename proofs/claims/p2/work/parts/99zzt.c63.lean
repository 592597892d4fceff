/-! pairs of calls: lead -/
theorem z_ldC_hi {a : Nat} {y m : Int} {V : v_V} (ha : a < 8) (hy : 0 ≤ y ∧ y < 8) (hL : ∀ j : Nat, j < 16 → 0 ≤ V (10 + 6 * a + 1) j ∧ V (10 + 6 * a + 1) j < 8) (k : Nat) (hk : 58 ≤ k) : ∀ t : Nat, t ≤ 16 → z_ldC a y m t V k = V k
  | 0, _ => rfl
  | t + 1, ht => by
    have ih := z_ldC_hi (m := m) ha hy hL k hk t (by omega)
    have hled := z_ldC_led (a := a) (V := V) (y := y) (m := m) t t
    rw [if_neg (by omega)] at hled
    have h0 := hL t (by omega)
    by_cases h : m / 2 ^ t % 2 = 1
    · obtain ⟨c, hc⟩ : ∃ c : Nat, z_ldC a y m t V (10 + 6 * a + 1) t = (c : Int) := ⟨(V (10 + 6 * a + 1) t).toNat, by omega⟩
      by_cases hcy : (c : Int) = y
      · rw [z_ldC_1 h (hc.trans hcy), v_up_ne (by omega)]
        exact ih
      · rw [z_ldC_2 h hc hcy, v_up_ne (by omega), v_ur_ne (by omega), v_ur_ne (by omega)]
        exact ih
    · rw [z_ldC_0 h]
      exact ih
section
variable {X : Nat → List Int32} {u w cnt : Nat} {S : m_H} {V : v_V}
set_option maxRecDepth 100000 in
set_option maxHeartbeats 4000000 in
theorem pr_lead (hR : RR cnt u w S V) {x : Int} (hx1 : (-2147483648 ≤ x ∧ x < 2147483648)) {y : Int} (hy1 : (-2147483648 ≤ y ∧ y < 2147483648)) {q : Int} (hq1 : (-2147483648 ≤ q ∧ q < 2147483648)) : PR X True 80 146 [.ref 0, iv x, iv y, iv q] [.ref 170, iv x, iv y, iv q] cnt u w S V := by
  have hR2 := RR_le hR (Nat.le_succ cnt)
  obtain ⟨tl, hC, hM, hP, hZ⟩ := hR
  have hC0 := hC
  have hM0 := hM
  have hP0 := hP
  obtain ⟨c1, c2, c3, c4, c5, c6, c7, c8⟩ := hC
  obtain ⟨m1, -, -, m4, m5, m6⟩ := hM
  obtain ⟨p1, p2, p3, p4⟩ := hP
  obtain ⟨n1, n2, n3, n4⟩ := c2.1
  have hsz := p1.1
  have e7 : V 1 7 = V 171 2 := n1.2.2.2.1
  have e5 : V 1 5 = V 171 1 := n1.2.2.1
  have hLe : ∀ b : Nat, b < 8 → ∀ t : Nat, t < 16 → V (10 + 6 * b + 1) t = V 171 (1552 + 16 * b + t) := fun b hb t ht => (n4 b hb).2.2.2.2.2.1 t ht
  have hRe : ∀ t : Nat, t < 6 → V 5 t = V 171 (1680 + t) := fun t ht => n3 t ht
  have hN0 : ∀ b : Nat, (b : Int) < V 171 1 → V (10 + 6 * b) 0 = (b : Int) := fun b hb => (n4 b (by omega)).1 hb
  have hLr : ∀ b : Nat, (b : Int) < V 171 1 → ∀ t : Nat, t < 16 → 0 ≤ V 171 (1552 + 16 * b + t) ∧ V 171 (1552 + 16 * b + t) < V 171 1 := fun b hb t ht => by have := p1.2.2.2.1 b (by omega) t ht; exact ⟨this.1, this.2.2 hb⟩
  have hLc : ∀ b : Nat, (b : Int) < V 1 5 → ∀ t : Nat, t < 16 → 0 ≤ V (10 + 6 * b + 1) t ∧ V (10 + 6 * b + 1) t < V 1 5 := fun b hb t ht => by rw [hLe b (by omega) t ht, e5]; exact hLr b (by omega) t ht
  have hRr : ∀ t : Nat, t < 6 → 0 ≤ V 171 (1680 + t) ∧ V 171 (1680 + t) ≤ 7 := fun t ht => by have := p1.2.2.2.2.1 t ht; exact ⟨this.1, this.2.1⟩
  have hRc : ∀ t : Nat, t < 6 → 0 ≤ V 5 t ∧ V 5 t ≤ 7 := fun t ht => by rw [hRe t ht]; exact hRr t ht
  have hEA : (∃ b : Nat, (b : Int) < V 1 5 ∧ (b : Int) ≠ x ∧ ∃ t : Nat, t < 16 ∧ V (10 + 6 * b + 1) t = x) → (∀ b : Nat, (b : Int) < V 171 1 → (b : Int) ≠ x → ∀ t : Nat, t < 16 → V 171 (1552 + 16 * b + t) ≠ x) → False := by
    rintro ⟨b, b1, b2, t, b3, b4⟩ hA
    exact hA b (by omega) b2 t b3 ((hLe b (by omega) t b3).symm.trans b4)
  have hAE : (∀ b : Nat, (b : Int) < V 1 5 → (b : Int) ≠ x → ∀ t : Nat, t < 16 → V (10 + 6 * b + 1) t ≠ x) → (∃ b : Nat, (b : Int) < V 171 1 ∧ (b : Int) ≠ x ∧ ∃ t : Nat, t < 16 ∧ V 171 (1552 + 16 * b + t) = x) → False := by
    rintro hA ⟨b, b1, b2, t, b3, b4⟩
    exact hA b (by omega) b2 t b3 ((hLe b (by omega) t b3).trans b4)
  have hIA : (∃ t : Nat, (t : Int) < V 1 7 ∧ V 5 t = y) → (∀ t : Nat, (t : Int) < V 171 2 → V 171 (1680 + t) ≠ y) → False := by
    rintro ⟨t, b1, b2⟩ hA
    exact hA t (by omega) ((hRe t (by omega)).symm.trans b2)
  have hAI : (∀ t : Nat, (t : Int) < V 1 7 → V 5 t ≠ y) → (∃ t : Nat, (t : Int) < V 171 2 ∧ V 171 (1680 + t) = y) → False := by
    rintro hA ⟨t, b1, b2⟩
    exact hA t (by omega) ((hRe t (by omega)).trans b2)
  have hz : 0 ≤ y ∧ y < V 1 5 → z_na (V (10 + 6 * y.toNat + 1)) (V (10 + 6 * y.toNat) 0) 16 = z_na (fun t : Nat => V 171 (1552 + 16 * y.toNat + t)) y 16 := fun g => by
    rw [hN0 y.toNat (by omega), show ((y.toNat : Nat) : Int) = y by omega]
    exact z_na_c (fun i hi => hLe y.toNat (by omega) i hi)
  intro K hK
  refine y_Rm (D' := 4) (cs_lead c1 hx1 hy1 hq1 (by omega) hLc (fun b hb => hN0 b (by omega)) (by omega) hRc (fun g1 g2 => ?_) (fun g1 g2 => ?_) (fun g1 g2 => ?_) (fun g1 g2 g3 gX g4 => ?_) (fun g1 g2 g3 gX g4 g5 => ?_) (fun g1 g2 g3 gX g4 g5 gI g6 => ?_) (fun g1 g2 g3 gX g4 g5 gI g6 g7 => ?_) (fun g1 g2 g3 gX g4 g5 gI g6 g7 => ?_) (fun g1 g2 g3 => ?_)) (by decide)
  · have f171 : V 171 = V 171 := rfl
    refine hK _ _ _ _ _ m1 (fun K2 h2 => y_Rm (D' := 4) (ms_lead (V := V) m1 hx1 hy1 hq1 (by rw [f171]; exact hsz.2.1) (by rw [f171]; exact hLr) (by rw [f171]; exact hsz.2.2.1) (by rw [f171]; exact hRr) ?_ ?_ ?_ ?_ ?_ ?_ ?_ ?_ ?_) (by decide))
    · intro j1; exact h2 _ _ _ _ _ hR2 (fun _ => rfl)
    · intro j1 j2 j3 j4 jX j5; exfalso; clear hEA hAE hIA hAI hLe hLr hLc hRr hRc hRe hN0 hz jX; omega
    · intro j1 j2 j3 j4 jX j5; exfalso; clear hEA hAE hIA hAI hLe hLr hLc hRr hRc hRe hN0 hz jX; omega
    · intro j1 j2 j3 j4 jI j5; exfalso; clear hEA hAE hIA hAI hLe hLr hLc hRr hRc hRe hN0 hz jI; omega
    · intro j1 j2 j3 j4 jI j5 j6; exfalso; clear hEA hAE hIA hAI hLe hLr hLc hRr hRc hRe hN0 hz jI; omega
    · intro j1 j2 j3 j4 jI j5 j6 jX j7; exfalso; clear hEA hAE hIA hAI hLe hLr hLc hRr hRc hRe hN0 hz jX jI; omega
    · intro j1 j2 j3 j4 jI j5 j6 jX j7; exfalso; clear hEA hAE hIA hAI hLe hLr hLc hRr hRc hRe hN0 hz jX jI; omega
    · intro j1 j2 j3; exfalso; clear hEA hAE hIA hAI hLe hLr hLc hRr hRc hRe hN0 hz; omega
    · intro j1 j2; exfalso; clear hEA hAE hIA hAI hLe hLr hLc hRr hRc hRe hN0 hz; omega
  · have f171 : V 171 = V 171 := rfl
    refine hK _ _ _ _ _ m1 (fun K2 h2 => y_Rm (D' := 4) (ms_lead (V := V) m1 hx1 hy1 hq1 (by rw [f171]; exact hsz.2.1) (by rw [f171]; exact hLr) (by rw [f171]; exact hsz.2.2.1) (by rw [f171]; exact hRr) ?_ ?_ ?_ ?_ ?_ ?_ ?_ ?_ ?_) (by decide))
    · intro j1; exact h2 _ _ _ _ _ hR2 (fun _ => rfl)
    · intro j1 j2 j3 j4 jX j5; exfalso; clear hEA hAE hIA hAI hLe hLr hLc hRr hRc hRe hN0 hz jX; omega
    · intro j1 j2 j3 j4 jX j5; exfalso; clear hEA hAE hIA hAI hLe hLr hLc hRr hRc hRe hN0 hz jX; omega
    · intro j1 j2 j3 j4 jI j5; exfalso; clear hEA hAE hIA hAI hLe hLr hLc hRr hRc hRe hN0 hz jI; omega
    · intro j1 j2 j3 j4 jI j5 j6; exfalso; clear hEA hAE hIA hAI hLe hLr hLc hRr hRc hRe hN0 hz jI; omega
    · intro j1 j2 j3 j4 jI j5 j6 jX j7; exfalso; clear hEA hAE hIA hAI hLe hLr hLc hRr hRc hRe hN0 hz jX jI; omega
    · intro j1 j2 j3 j4 jI j5 j6 jX j7; exfalso; clear hEA hAE hIA hAI hLe hLr hLc hRr hRc hRe hN0 hz jX jI; omega
    · intro j1 j2 j3; exfalso; clear hEA hAE hIA hAI hLe hLr hLc hRr hRc hRe hN0 hz; omega
    · intro j1 j2; exfalso; clear hEA hAE hIA hAI hLe hLr hLc hRr hRc hRe hN0 hz; omega
  · have f171 : V 171 = V 171 := rfl
    refine hK _ _ _ _ _ m1 (fun K2 h2 => y_Rm (D' := 4) (ms_lead (V := V) m1 hx1 hy1 hq1 (by rw [f171]; exact hsz.2.1) (by rw [f171]; exact hLr) (by rw [f171]; exact hsz.2.2.1) (by rw [f171]; exact hRr) ?_ ?_ ?_ ?_ ?_ ?_ ?_ ?_ ?_) (by decide))
    · intro j1; exfalso; clear hEA hAE hIA hAI hLe hLr hLc hRr hRc hRe hN0 hz; omega
    · intro j1 j2 j3 j4 jX j5; exfalso; clear hEA hAE hIA hAI hLe hLr hLc hRr hRc hRe hN0 hz jX; omega
    · intro j1 j2 j3 j4 jX j5; exfalso; clear hEA hAE hIA hAI hLe hLr hLc hRr hRc hRe hN0 hz jX; omega
    · intro j1 j2 j3 j4 jI j5; exfalso; clear hEA hAE hIA hAI hLe hLr hLc hRr hRc hRe hN0 hz jI; omega
    · intro j1 j2 j3 j4 jI j5 j6; exfalso; clear hEA hAE hIA hAI hLe hLr hLc hRr hRc hRe hN0 hz jI; omega
    · intro j1 j2 j3 j4 jI j5 j6 jX j7; exfalso; clear hEA hAE hIA hAI hLe hLr hLc hRr hRc hRe hN0 hz jX jI; omega
    · intro j1 j2 j3 j4 jI j5 j6 jX j7; exfalso; clear hEA hAE hIA hAI hLe hLr hLc hRr hRc hRe hN0 hz jX jI; omega
    · intro j1 j2 j3; exfalso; clear hEA hAE hIA hAI hLe hLr hLc hRr hRc hRe hN0 hz; omega
    · intro j1 j2; exact h2 _ _ _ _ _ hR2 (fun _ => rfl)
  · have f171 : V 171 = V 171 := rfl
    refine hK _ _ _ _ _ m1 (fun K2 h2 => y_Rm (D' := 4) (ms_lead (V := V) m1 hx1 hy1 hq1 (by rw [f171]; exact hsz.2.1) (by rw [f171]; exact hLr) (by rw [f171]; exact hsz.2.2.1) (by rw [f171]; exact hRr) ?_ ?_ ?_ ?_ ?_ ?_ ?_ ?_ ?_) (by decide))
    · intro j1; exfalso; clear hEA hAE hIA hAI hLe hLr hLc hRr hRc hRe hN0 hz gX; omega
    · intro j1 j2 j3 j4 jX j5; exact h2 _ _ _ _ _ hR2 (fun _ => rfl)
    · intro j1 j2 j3 j4 jX j5; exact (hEA gX jX).elim
    · intro j1 j2 j3 j4 jI j5; exact h2 _ _ _ _ _ hR2 (fun _ => rfl)
    · intro j1 j2 j3 j4 jI j5 j6; exact h2 _ _ _ _ _ hR2 (fun _ => rfl)
    · intro j1 j2 j3 j4 jI j5 j6 jX j7; exact h2 _ _ _ _ _ hR2 (fun _ => rfl)
    · intro j1 j2 j3 j4 jI j5 j6 jX j7; exact (hEA gX jX).elim
    · intro j1 j2 j3; exfalso; clear hEA hAE hIA hAI hLe hLr hLc hRr hRc hRe hN0 hz gX; omega
    · intro j1 j2; exfalso; clear hEA hAE hIA hAI hLe hLr hLc hRr hRc hRe hN0 hz gX; omega
  · have hX8 : x.toNat < 8 := by clear hEA hAE hIA hAI hLe hLr hLc hRr hRc hRe hN0 gX; omega
    have f171 : (z_ldC x.toNat y q 16 V) 171 = V 171 := z_ldC_fr 171 (by clear hEA hAE hIA hAI hLe hLr hLc hRr hRc hRe hN0 gX; omega) (fun i => by omega) 16
    have hy8 : 0 ≤ y ∧ y < 8 := by clear hEA hAE hIA hAI hLe hLr hLc hRr hRc hRe hN0 gX; omega
    have hrn := ld_RN (m := q) c2.1 p1 hX8 hy8
    have hso := ld_SO (m := q) (a := x.toNat) p1 (by clear hEA hAE hIA hAI hLe hLr hLc hRr hRc hRe hN0 gX; omega) (show 0 ≤ y ∧ y < V 171 1 by clear hEA hAE hIA hAI hLe hLr hLc hRr hRc hRe hN0 gX; omega)
    have hA := (z_ldR_all (m := q) hX8 hy8 (fun j hj => by have := p1.2.2.2.1 x.toNat hX8 j hj; exact ⟨this.1, by have := this.2.1; omega⟩) 16 (Nat.le_refl 16)).1
    have hx0 : (x.toNat : Int) = x := by clear hEA hAE hIA hAI hLe hLr hLc hRr hRc hRe hN0 gX; omega
    refine hK _ _ _ _ _ m1 (fun K2 h2 => y_Rm (D' := 4) (ms_lead (V := (z_ldC x.toNat y q 16 V)) m1 hx1 hy1 hq1 (by rw [f171]; exact hsz.2.1) (by rw [f171]; exact hLr) (by rw [f171]; exact hsz.2.2.1) (by rw [f171]; exact hRr) ?_ ?_ ?_ ?_ ?_ ?_ ?_ ?_ ?_) (by decide))
    all_goals try rw [f171]
    · intro j1; exfalso; clear hEA hAE hIA hAI hLe hLr hLc hRr hRc hRe hN0 hz gX; omega
    · intro j1 j2 j3 j4 jX j5; exact (hAE gX jX).elim
    · intro j1 j2 j3 j4 jX j5
      refine h2 _ _ _ _ _ (RR_n hC0 hM0 hP0 hZ hrn (SO_le hso (Nat.le_succ cnt)) (fun k hk => by
        rcases (show 58 ≤ k ∨ k = 0 ∨ k = 8 by omega) with hk2 | rfl | rfl
        · exact z_ldC_hi hX8 hy8 (fun j hj => by rw [hLe x.toNat hX8 j hj]; have := p1.2.2.2.1 x.toNat hX8 j hj; exact ⟨this.1, by have := this.2.1; omega⟩) k hk2 16 (Nat.le_refl 16)
        · exact z_ldC_fr 0 (by omega) (fun i => by omega) 16
        · exact z_ldC_fr 8 (by omega) (fun i => by omega) 16) (hA 0 (by omega) (by omega)) (hA 3 (by omega) (by omega)) (hA 5 (by omega) (by omega)) (fun j hj => hA j (by omega) (by omega)) (v_ur_eq _ _ _) (fun k hk => v_ur_ne hk)) (fun _ => ?_)
      have hbx := hrn.2.2.2 x.toNat hX8
      have h10 : z_ldC x.toNat y q 16 V (10 + 6 * x.toNat) 0 = x := (hbx.1 (by rw [hA 1 (by omega) (by omega), hx0]; exact (by have := g1.2; rw [e5] at this; exact this))).trans hx0
      rw [h10]
      refine z_na_c (fun i hi => ?_)
      rw [v_ur_eq]
      exact (hbx.2.2.2.2.2.1 i hi).symm
    · intro j1 j2 j3 j4 jI j5; exfalso; clear hEA hAE hIA hAI hLe hLr hLc hRr hRc hRe hN0 hz gX jI; omega
    · intro j1 j2 j3 j4 jI j5 j6; exfalso; clear hEA hAE hIA hAI hLe hLr hLc hRr hRc hRe hN0 hz gX jI; omega
    · intro j1 j2 j3 j4 jI j5 j6 jX j7; exfalso; clear hEA hAE hIA hAI hLe hLr hLc hRr hRc hRe hN0 hz gX jX jI; omega
    · intro j1 j2 j3 j4 jI j5 j6 jX j7; exfalso; clear hEA hAE hIA hAI hLe hLr hLc hRr hRc hRe hN0 hz gX jX jI; omega
    · intro j1 j2 j3; exfalso; clear hEA hAE hIA hAI hLe hLr hLc hRr hRc hRe hN0 hz gX; omega
    · intro j1 j2; exfalso; clear hEA hAE hIA hAI hLe hLr hLc hRr hRc hRe hN0 hz gX; omega
  · have f171 : V 171 = V 171 := rfl
    refine hK _ _ _ _ _ m1 (fun K2 h2 => y_Rm (D' := 4) (ms_lead (V := V) m1 hx1 hy1 hq1 (by rw [f171]; exact hsz.2.1) (by rw [f171]; exact hLr) (by rw [f171]; exact hsz.2.2.1) (by rw [f171]; exact hRr) ?_ ?_ ?_ ?_ ?_ ?_ ?_ ?_ ?_) (by decide))
    · intro j1; exfalso; clear hEA hAE hIA hAI hLe hLr hLc hRr hRc hRe hN0 hz gX gI; omega
    · intro j1 j2 j3 j4 jX j5; exact h2 _ _ _ _ _ hR2 (fun _ => rfl)
    · intro j1 j2 j3 j4 jX j5; exfalso; clear hEA hAE hIA hAI hLe hLr hLc hRr hRc hRe hN0 hz gX gI jX; omega
    · intro j1 j2 j3 j4 jI j5; exact h2 _ _ _ _ _ hR2 (fun _ => rfl)
    · intro j1 j2 j3 j4 jI j5 j6; exact h2 _ _ _ _ _ hR2 (fun _ => rfl)
    · intro j1 j2 j3 j4 jI j5 j6 jX j7; exact h2 _ _ _ _ _ hR2 (fun _ => rfl)
    · intro j1 j2 j3 j4 jI j5 j6 jX j7; exact (hIA gI jI).elim
    · intro j1 j2 j3; exfalso; clear hEA hAE hIA hAI hLe hLr hLc hRr hRc hRe hN0 hz gX gI; omega
    · intro j1 j2; exfalso; clear hEA hAE hIA hAI hLe hLr hLc hRr hRc hRe hN0 hz gX gI; omega
  · have hX8 : x.toNat < 8 := by clear hEA hAE hIA hAI hLe hLr hLc hRr hRc hRe hN0 gX gI; omega
    have f171 : (z_ldC x.toNat y q 16 V) 171 = V 171 := z_ldC_fr 171 (by clear hEA hAE hIA hAI hLe hLr hLc hRr hRc hRe hN0 gX gI; omega) (fun i => by omega) 16
    have hy8 : 0 ≤ y ∧ y < 8 := by clear hEA hAE hIA hAI hLe hLr hLc hRr hRc hRe hN0 gX gI; omega
    have hrn := ld_RN (m := q) c2.1 p1 hX8 hy8
    have hso := ld_SO (m := q) (a := x.toNat) p1 (by clear hEA hAE hIA hAI hLe hLr hLc hRr hRc hRe hN0 gX gI; omega) (show 0 ≤ y ∧ y < V 171 1 by clear hEA hAE hIA hAI hLe hLr hLc hRr hRc hRe hN0 gX gI; omega)
    have hA := (z_ldR_all (m := q) hX8 hy8 (fun j hj => by have := p1.2.2.2.1 x.toNat hX8 j hj; exact ⟨this.1, by have := this.2.1; omega⟩) 16 (Nat.le_refl 16)).1
    have hx0 : (x.toNat : Int) = x := by clear hEA hAE hIA hAI hLe hLr hLc hRr hRc hRe hN0 gX gI; omega
    refine hK _ _ _ _ _ m1 (fun K2 h2 => y_Rm (D' := 4) (ms_lead (V := (z_ldC x.toNat y q 16 V)) m1 hx1 hy1 hq1 (by rw [f171]; exact hsz.2.1) (by rw [f171]; exact hLr) (by rw [f171]; exact hsz.2.2.1) (by rw [f171]; exact hRr) ?_ ?_ ?_ ?_ ?_ ?_ ?_ ?_ ?_) (by decide))
    all_goals try rw [f171]
    · intro j1; exfalso; clear hEA hAE hIA hAI hLe hLr hLc hRr hRc hRe hN0 hz gX gI; omega
    · intro j1 j2 j3 j4 jX j5; exfalso; clear hEA hAE hIA hAI hLe hLr hLc hRr hRc hRe hN0 hz gX gI jX; omega
    · intro j1 j2 j3 j4 jX j5; exfalso; clear hEA hAE hIA hAI hLe hLr hLc hRr hRc hRe hN0 hz gX gI jX; omega
    · intro j1 j2 j3 j4 jI j5; exact (hAI gI jI).elim
    · intro j1 j2 j3 j4 jI j5 j6; exfalso; have hzz := hz g2; clear hEA hAE hIA hAI hLe hLr hLc hRr hRc hRe hN0 hz gX gI jI; omega
    · intro j1 j2 j3 j4 jI j5 j6 jX j7; exact (hAE gX jX).elim
    · intro j1 j2 j3 j4 jI j5 j6 jX j7
      refine h2 _ _ _ _ _ (RR_n hC0 hM0 hP0 hZ hrn (SO_le hso (Nat.le_succ cnt)) (fun k hk => by
        rcases (show 58 ≤ k ∨ k = 0 ∨ k = 8 by omega) with hk2 | rfl | rfl
        · exact z_ldC_hi hX8 hy8 (fun j hj => by rw [hLe x.toNat hX8 j hj]; have := p1.2.2.2.1 x.toNat hX8 j hj; exact ⟨this.1, by have := this.2.1; omega⟩) k hk2 16 (Nat.le_refl 16)
        · exact z_ldC_fr 0 (by omega) (fun i => by omega) 16
        · exact z_ldC_fr 8 (by omega) (fun i => by omega) 16) (hA 0 (by omega) (by omega)) (hA 3 (by omega) (by omega)) (hA 5 (by omega) (by omega)) (fun j hj => hA j (by omega) (by omega)) (v_ur_eq _ _ _) (fun k hk => v_ur_ne hk)) (fun _ => ?_)
      have hbx := hrn.2.2.2 x.toNat hX8
      have h10 : z_ldC x.toNat y q 16 V (10 + 6 * x.toNat) 0 = x := (hbx.1 (by rw [hA 1 (by omega) (by omega), hx0]; exact (by have := g1.2; rw [e5] at this; exact this))).trans hx0
      rw [h10]
      refine z_na_c (fun i hi => ?_)
      rw [v_ur_eq]
      exact (hbx.2.2.2.2.2.1 i hi).symm
    · intro j1 j2 j3; exfalso; clear hEA hAE hIA hAI hLe hLr hLc hRr hRc hRe hN0 hz gX gI; omega
    · intro j1 j2; exfalso; clear hEA hAE hIA hAI hLe hLr hLc hRr hRc hRe hN0 hz gX gI; omega
  · have f171 : V 171 = V 171 := rfl
    refine hK _ _ _ _ _ m1 (fun K2 h2 => y_Rm (D' := 4) (ms_lead (V := V) m1 hx1 hy1 hq1 (by rw [f171]; exact hsz.2.1) (by rw [f171]; exact hLr) (by rw [f171]; exact hsz.2.2.1) (by rw [f171]; exact hRr) ?_ ?_ ?_ ?_ ?_ ?_ ?_ ?_ ?_) (by decide))
    · intro j1; exfalso; clear hEA hAE hIA hAI hLe hLr hLc hRr hRc hRe hN0 hz gX gI; omega
    · intro j1 j2 j3 j4 jX j5; exact h2 _ _ _ _ _ hR2 (fun _ => rfl)
    · intro j1 j2 j3 j4 jX j5; exfalso; clear hEA hAE hIA hAI hLe hLr hLc hRr hRc hRe hN0 hz gX gI jX; omega
    · intro j1 j2 j3 j4 jI j5; exact h2 _ _ _ _ _ hR2 (fun _ => rfl)
    · intro j1 j2 j3 j4 jI j5 j6; exact h2 _ _ _ _ _ hR2 (fun _ => rfl)
    · intro j1 j2 j3 j4 jI j5 j6 jX j7; exact h2 _ _ _ _ _ hR2 (fun _ => rfl)
    · intro j1 j2 j3 j4 jI j5 j6 jX j7; exfalso; have hzz := hz g2; clear hEA hAE hIA hAI hLe hLr hLc hRr hRc hRe hN0 hz gX gI jX jI; omega
    · intro j1 j2 j3; exfalso; clear hEA hAE hIA hAI hLe hLr hLc hRr hRc hRe hN0 hz gX gI; omega
    · intro j1 j2; exfalso; clear hEA hAE hIA hAI hLe hLr hLc hRr hRc hRe hN0 hz gX gI; omega
  · have f171 : V 171 = V 171 := rfl
    refine hK _ _ _ _ _ m1 (fun K2 h2 => y_Rm (D' := 4) (ms_lead (V := V) m1 hx1 hy1 hq1 (by rw [f171]; exact hsz.2.1) (by rw [f171]; exact hLr) (by rw [f171]; exact hsz.2.2.1) (by rw [f171]; exact hRr) ?_ ?_ ?_ ?_ ?_ ?_ ?_ ?_ ?_) (by decide))
    · intro j1; exfalso; clear hEA hAE hIA hAI hLe hLr hLc hRr hRc hRe hN0 hz; omega
    · intro j1 j2 j3 j4 jX j5; exfalso; clear hEA hAE hIA hAI hLe hLr hLc hRr hRc hRe hN0 hz jX; omega
    · intro j1 j2 j3 j4 jX j5; exfalso; clear hEA hAE hIA hAI hLe hLr hLc hRr hRc hRe hN0 hz jX; omega
    · intro j1 j2 j3 j4 jI j5; exfalso; clear hEA hAE hIA hAI hLe hLr hLc hRr hRc hRe hN0 hz jI; omega
    · intro j1 j2 j3 j4 jI j5 j6; exfalso; clear hEA hAE hIA hAI hLe hLr hLc hRr hRc hRe hN0 hz jI; omega
    · intro j1 j2 j3 j4 jI j5 j6 jX j7; exfalso; clear hEA hAE hIA hAI hLe hLr hLc hRr hRc hRe hN0 hz jX jI; omega
    · intro j1 j2 j3 j4 jI j5 j6 jX j7; exfalso; clear hEA hAE hIA hAI hLe hLr hLc hRr hRc hRe hN0 hz jX jI; omega
    · intro j1 j2 j3; exact h2 _ _ _ _ _ hR2 (fun _ => rfl)
    · intro j1 j2; exfalso; clear hEA hAE hIA hAI hLe hLr hLc hRr hRc hRe hN0 hz; omega
end
