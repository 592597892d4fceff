/-! pairs of calls that change nothing -/
section
variable {X : Nat → List Int32} {u w cnt : Nat} {S : m_H} {V : v_V}
set_option maxRecDepth 100000 in
set_option maxHeartbeats 4000000 in
theorem pr_latest (hR : RR cnt u w S V) {x : Int} (hx1 : (-2147483648 ≤ x ∧ x < 2147483648)) : PR X True 77 139 [.ref 0, iv x] [.ref 170, iv x] cnt u w S V := by
  have hR2 := RR_le hR (Nat.le_succ cnt)
  obtain ⟨tl, hC, hM, hP, hZ⟩ := hR
  have hC0 := hC
  have hM0 := hM
  have hP0 := hP
  obtain ⟨c1, c2, c3, c4, c5, c6, c7, c8⟩ := hC
  obtain ⟨m1, -, -, m4, m5, m6⟩ := hM
  obtain ⟨p1, p2, p3, p4⟩ := hP
  obtain ⟨n1, n2, n3, n4⟩ := c2.1
  have hsz := p1.1
  have e := fun (a : 0 ≤ x) (b : x < V 171 1) => (show V (10 + 6 * x.toNat) 3 = V 171 (186 + x).toNat by rw [show (186 + x).toNat = 186 + x.toNat by omega]; exact (n4 x.toNat (by omega)).2.2.2.1)
  intro K hK
  refine y_Rm (D' := 2) (cs_latest c1 (by omega) hx1 ?_ ?_) (by decide)
  all_goals intros
  all_goals refine hK _ _ _ _ _ m1 (fun K2 h2 => y_Rm (D' := 3) (ms_latest m1 (by omega) hx1 ?_ ?_) (by decide))
  all_goals intros
  all_goals first | (exfalso; omega) | exact h2 _ _ _ _ _ hR2 (fun _ => by first | rfl | exact (e (by omega) (by omega)).symm)
set_option maxRecDepth 100000 in
set_option maxHeartbeats 4000000 in
theorem pr_led (hR : RR cnt u w S V) {x : Int} (hx1 : (-2147483648 ≤ x ∧ x < 2147483648)) {y : Int} (hy1 : (-2147483648 ≤ y ∧ y < 2147483648)) : PR X True 81 147 [.ref 0, iv x, iv y] [.ref 170, iv x, iv y] cnt u w S V := by
  have hR2 := RR_le hR (Nat.le_succ cnt)
  obtain ⟨tl, hC, hM, hP, hZ⟩ := hR
  have hC0 := hC
  have hM0 := hM
  have hP0 := hP
  obtain ⟨c1, c2, c3, c4, c5, c6, c7, c8⟩ := hC
  obtain ⟨m1, -, -, m4, m5, m6⟩ := hM
  obtain ⟨p1, p2, p3, p4⟩ := hP
  obtain ⟨n1, n2, n3, n4⟩ := c2.1
  have hsz := p1.1
  have e := fun (a : 0 ≤ x) (b : x < V 171 1) (c : 0 ≤ y) (d : y < 16) => (show V (10 + 6 * x.toNat + 1) y.toNat = V 171 (1552 + 16 * x + y).toNat by rw [show (1552 + 16 * x + y).toNat = 1552 + 16 * x.toNat + y.toNat by omega]; exact (n4 x.toNat (by omega)).2.2.2.2.2.1 y.toNat (by omega))
  intro K hK
  refine y_Rm (D' := 2) (cs_led c1 (by omega) hx1 hy1 ?_ ?_ ?_) (by decide)
  all_goals intros
  all_goals refine hK _ _ _ _ _ m1 (fun K2 h2 => y_Rm (D' := 3) (ms_led m1 (by omega) hx1 hy1 ?_ ?_ ?_) (by decide))
  all_goals intros
  all_goals first | (exfalso; omega) | exact h2 _ _ _ _ _ hR2 (fun _ => by first | rfl | exact (e (by omega) (by omega) (by omega) (by omega)).symm)
set_option maxRecDepth 100000 in
set_option maxHeartbeats 4000000 in
theorem pr_part (hR : RR cnt u w S V) {x : Int} (hx1 : (-2147483648 ≤ x ∧ x < 2147483648)) {y : Int} (hy1 : (-2147483648 ≤ y ∧ y < 2147483648)) {d : Int} (hd1 : (-2147483648 ≤ d ∧ d < 2147483648)) {q : Int} (hq1 : (-2147483648 ≤ q ∧ q < 2147483648)) : PR X True 73 126 [.ref 0, iv x, iv y, iv d, iv q] [.ref 170, iv x, iv y, iv d, iv q] cnt u w S V := by
  have hR2 := RR_le hR (Nat.le_succ cnt)
  obtain ⟨tl, hC, hM, hP, hZ⟩ := hR
  have hC0 := hC
  have hM0 := hM
  have hP0 := hP
  obtain ⟨c1, c2, c3, c4, c5, c6, c7, c8⟩ := hC
  obtain ⟨m1, -, -, m4, m5, m6⟩ := hM
  obtain ⟨p1, p2, p3, p4⟩ := hP
  obtain ⟨n1, n2, n3, n4⟩ := c2.1
  have hsz := p1.1
  intro K hK
  refine y_Rm (D' := 2) (cs_part c1 c2 p1 p4 hx1 hy1 hd1 hq1 ?_ ?_) (by decide)
  all_goals intros
  all_goals refine hK _ _ _ _ _ m1 (fun K2 h2 => y_Rm (D' := 3) (ms_part m1 p1 p4 m4 hx1 hy1 hd1 hq1 ?_ ?_) (by decide))
  all_goals intros
  all_goals first | (exfalso; omega) | exact h2 _ _ _ _ _ hR2 (fun _ => by rfl)
set_option maxRecDepth 100000 in
set_option maxHeartbeats 4000000 in
theorem pr_trace (hR : RR cnt u w S V) {x : Int} (hx1 : (-2147483648 ≤ x ∧ x < 2147483648)) : PR X False 92 174 [.ref 0, iv x] [.ref 170, iv x] cnt u w S V := by
  have hR2 := RR_le hR (Nat.le_succ cnt)
  obtain ⟨tl, hC, hM, hP, hZ⟩ := hR
  have hC0 := hC
  have hM0 := hM
  have hP0 := hP
  obtain ⟨c1, c2, c3, c4, c5, c6, c7, c8⟩ := hC
  obtain ⟨m1, -, -, m4, m5, m6⟩ := hM
  obtain ⟨p1, p2, p3, p4⟩ := hP
  obtain ⟨n1, n2, n3, n4⟩ := c2.1
  have hsz := p1.1
  intro K hK
  refine y_Rm (D' := 1) (cs_trace c1 hx1 (by omega) ?_ ?_ ?_ ?_) (by decide)
  all_goals intros
  all_goals refine hK _ _ _ _ _ m1 (fun K2 h2 => y_Rm (D' := 2) (ms_trace m1 hx1 (by omega) ?_ ?_ ?_ ?_) (by decide))
  all_goals intros
  all_goals first | (exfalso; omega) | exact h2 _ _ _ _ _ hR2 (fun _ => by contradiction)
set_option maxRecDepth 100000 in
set_option maxHeartbeats 4000000 in
theorem pr_count (hR : RR cnt u w S V) {x : Int} (hx1 : (-2147483648 ≤ x ∧ x < 2147483648)) : PR X (x ≠ 7) 96 178 [.ref 0, iv x] [.ref 170, iv x] cnt u w S V := by
  have hR2 := RR_le hR (Nat.le_succ cnt)
  obtain ⟨tl, hC, hM, hP, hZ⟩ := hR
  have hC0 := hC
  have hM0 := hM
  have hP0 := hP
  obtain ⟨c1, c2, c3, c4, c5, c6, c7, c8⟩ := hC
  obtain ⟨m1, -, -, m4, m5, m6⟩ := hM
  obtain ⟨p1, p2, p3, p4⟩ := hP
  obtain ⟨n1, n2, n3, n4⟩ := c2.1
  have hsz := p1.1
  intro K hK
  refine y_Rm (D' := 1) (cs_count c1 hx1 ?_ ?_ ?_ ?_ ?_ ?_ ?_ ?_ ?_) (by decide)
  all_goals intros
  all_goals refine hK _ _ _ _ _ m1 (fun K2 h2 => y_Rm (D' := 1) (ms_count m1 hx1 ?_ ?_ ?_ ?_ ?_ ?_ ?_ ?_ ?_) (by decide))
  all_goals intros
  all_goals first | (exfalso; omega) | exact h2 _ _ _ _ _ hR2 (fun _ => by first | rfl | omega)
end
