/-! pairs of calls: shown and ways answer alike -/
section
variable {X : Nat → List Int32} {u w cnt : Nat} {S : m_H} {V : v_V}
set_option maxRecDepth 100000 in
set_option maxHeartbeats 4000000 in
theorem pr_shownT (hR : RR cnt u w S V) {x : Int} (hx1 : (-2147483648 ≤ x ∧ x < 2147483648)) {y : Int} (hy1 : (-2147483648 ≤ y ∧ y < 2147483648)) {n : Int} (hn1 : (-2147483648 ≤ n ∧ n < 2147483648)) {d : Int} (hd1 : (-2147483648 ≤ d ∧ d < 2147483648)) {i : Int} (hi1 : (-2147483648 ≤ i ∧ i < 2147483648)) : PR X True 88 160 [.ref 0, iv x, iv y, iv n, iv d, iv i] [.ref 170, iv x, iv y, iv n, iv d, iv i] cnt u w S V := by
  have hR2 := RR_le hR (Nat.le_succ cnt)
  obtain ⟨tl, hC, hM, hP, hZ⟩ := hR
  have hC0 := hC
  have hM0 := hM
  have hP0 := hP
  obtain ⟨c1, c2, c3, c4, c5, c6, c7, c8⟩ := hC
  obtain ⟨m1, -, -, m4, m5, m6⟩ := hM
  obtain ⟨p1, p2, p3, p4⟩ := hP
  obtain ⟨n1, n2, n3, n4⟩ := c2.1
  have hsz := p1.1
  obtain ⟨⟨lf, s1⟩, s2, s3⟩ := c5
  intro K hK
  refine y_Rm (D' := 15) (cs_shown c1 c2 p1 p4 s1 s2 s3 hx1 hy1 hn1 hd1 hi1 ?_ ?_ (fun al g1 g2 g3 dn g4 l v g5 S2 V2 hE => ?_)) (by decide)
  · intros
    all_goals refine hK _ _ _ _ _ m1 (fun K2 h2 => y_Rm (D' := 11) (ms_shown m1 p1 p4 m4 hx1 hy1 hn1 hd1 hi1 ?_ ?_ ?_) (by decide))
    all_goals intros
    all_goals first | contradiction | (exfalso; omega) | exact h2 _ _ _ _ _ hR2 (fun _ => by rfl)
  · intros
    all_goals refine hK _ _ _ _ _ m1 (fun K2 h2 => y_Rm (D' := 11) (ms_shown m1 p1 p4 m4 hx1 hy1 hn1 hd1 hi1 ?_ ?_ ?_) (by decide))
    all_goals intros
    all_goals first | contradiction | (exfalso; omega) | exact h2 _ _ _ _ _ hR2 (fun _ => by rfl)
  · have e171 : V2 171 = V 171 := hE.2.2.2 171 (by omega) (by omega) (by omega) (by omega)
    have m1b := MdS_2 m1 hE.1
    refine hK _ _ _ _ V2 m1b (fun K2 h2 => y_Rm (D' := 11) (ms_shown m1b (by rw [e171]; exact p1) (by rw [e171]; exact p4) (by rw [e171]; exact fun i hi => MT_x (m4 i hi) (fun k a b => hE.2.2.2 k (by omega) (by omega) (by omega) (by omega))) hx1 hy1 hn1 hd1 hi1 ?_ ?_ (fun al2 j1 j2 j3 dn2 j4 l2 v2 j5 V3 hX => ?_)) (by decide))
    · try rw [e171]
      intros; first | contradiction | omega
    · try rw [e171]
      intros; first | contradiction | omega
    · refine h2 _ _ _ _ _ (RR_s hC0 hM0 hP0 hZ hE hX) (fun _ => ?_)
      rw [e171] at j3 j5
      obtain rfl : al = al2 := by omega
      obtain rfl : dn = dn2 := by omega
      have hpq : ∀ q : Nat, q < al → pkO (V 171 (1770 + 4 * q)) (V 171 (1770 + 4 * q + 1)) (V 171 (1770 + 4 * q + 2)) (V 171 (1770 + 4 * q + 3)) := fun q hq => p1.2.2.2.2.2.2 q (by omega)
      obtain ⟨rfl, rfl⟩ := resP_eq (resP_same (fun l hl hs v hv => brk_iff (by omega) g1.2.1 hpq l hl hs v hv) g5) j5
      rfl
set_option maxRecDepth 100000 in
set_option maxHeartbeats 4000000 in
theorem pr_waysT (hR : RR cnt u w S V) {x : Int} (hx1 : (-2147483648 ≤ x ∧ x < 2147483648)) {y : Int} (hy1 : (-2147483648 ≤ y ∧ y < 2147483648)) {d : Int} (hd1 : (-2147483648 ≤ d ∧ d < 2147483648)) {i : Int} (hi1 : (-2147483648 ≤ i ∧ i < 2147483648)) : PR X True 89 162 [.ref 0, iv x, iv y, iv d, iv i] [.ref 170, iv x, iv y, iv d, iv i] cnt u w S V := by
  have hR2 := RR_le hR (Nat.le_succ cnt)
  obtain ⟨tl, hC, hM, hP, hZ⟩ := hR
  have hC0 := hC
  have hM0 := hM
  have hP0 := hP
  obtain ⟨c1, c2, c3, c4, c5, c6, c7, c8⟩ := hC
  obtain ⟨m1, -, -, m4, m5, m6⟩ := hM
  obtain ⟨p1, p2, p3, p4⟩ := hP
  obtain ⟨n1, n2, n3, n4⟩ := c2.1
  have hsz := p1.1
  obtain ⟨⟨lf, s1⟩, s2, s3⟩ := c5
  intro K hK
  refine y_Rm (D' := 15) (cs_ways c1 c2 p1 p4 s1 s2 s3 hx1 hy1 hd1 hi1 ?_ ?_ (fun al g1 g2 g3 dn g4 l v g5 S2 V2 hE => ?_)) (by decide)
  · intros
    all_goals refine hK _ _ _ _ _ m1 (fun K2 h2 => y_Rm (D' := 10) (ms_ways m1 p1 p4 m4 hx1 hy1 hd1 hi1 ?_ ?_ ?_) (by decide))
    all_goals intros
    all_goals first | contradiction | (exfalso; omega) | exact h2 _ _ _ _ _ hR2 (fun _ => by rfl)
  · intros
    all_goals refine hK _ _ _ _ _ m1 (fun K2 h2 => y_Rm (D' := 10) (ms_ways m1 p1 p4 m4 hx1 hy1 hd1 hi1 ?_ ?_ ?_) (by decide))
    all_goals intros
    all_goals first | contradiction | (exfalso; omega) | exact h2 _ _ _ _ _ hR2 (fun _ => by rfl)
  · have e171 : V2 171 = V 171 := hE.2.2.2 171 (by omega) (by omega) (by omega) (by omega)
    have m1b := MdS_2 m1 hE.1
    refine hK _ _ _ _ V2 m1b (fun K2 h2 => y_Rm (D' := 10) (ms_ways m1b (by rw [e171]; exact p1) (by rw [e171]; exact p4) (by rw [e171]; exact fun i hi => MT_x (m4 i hi) (fun k a b => hE.2.2.2 k (by omega) (by omega) (by omega) (by omega))) hx1 hy1 hd1 hi1 ?_ ?_ (fun al2 j1 j2 j3 xn j6 yn j7 dn2 j4 l2 v2 j5 V3 hX => ?_)) (by decide))
    · try rw [e171]
      intros; first | contradiction | omega
    · try rw [e171]
      intros; first | contradiction | omega
    · refine h2 _ _ _ _ _ (RR_s hC0 hM0 hP0 hZ hE hX) (fun _ => ?_)
      rw [e171] at j3 j5
      obtain rfl : al = al2 := by omega
      obtain rfl : dn = dn2 := by omega
      obtain rfl : xn = x.toNat := by omega
      obtain rfl : yn = y.toNat := by omega
      have hpq : ∀ q : Nat, q < al → pkO (V 171 (1770 + 4 * q)) (V 171 (1770 + 4 * q + 1)) (V 171 (1770 + 4 * q + 2)) (V 171 (1770 + 4 * q + 3)) := fun q hq => p1.2.2.2.2.2.2 q (by omega)
      obtain ⟨rfl, rfl⟩ := resP_eq (resP_same (fun l hl _ v _ => way_iff l hl v) g5) j5
      rfl
end
