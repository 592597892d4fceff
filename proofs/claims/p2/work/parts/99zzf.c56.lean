/-! pairs of calls: feed, copy, fall -/
section
variable {X : Nat → List Int32} {u w cnt : Nat} {S : m_H} {V : v_V}
set_option maxRecDepth 100000 in
set_option maxHeartbeats 4000000 in
theorem pr_feed (hR : RR cnt u w S V) {z : Int64} {y : Int} (hy1 : (-2147483648 ≤ y ∧ y < 2147483648)) : PR X True 70 111 [.ref 0, .long z, iv y] [.ref 170, .long z, iv y] cnt u w S V := by
  have hR2 := RR_le hR (Nat.le_succ cnt)
  obtain ⟨tl, hC, hM, hP, hZ⟩ := hR
  have hC0 := hC
  have hM0 := hM
  have hP0 := hP
  obtain ⟨c1, c2, c3, c4, c5, c6, c7, c8⟩ := hC
  obtain ⟨m1, -, -, m4, m5, m6⟩ := hM
  obtain ⟨p1, p2, p3, p4⟩ := hP
  obtain ⟨n1, n2, n3, n4⟩ := c2.1
  have hsz := p1.1
  obtain ⟨q, hq⟩ : ∃ q : Nat, V 171 6 = (q : Int) := ⟨(V 171 6).toNat, by omega⟩
  have hq160 : q ≤ 160 := by omega
  have hv11 : V 1 1 = (q : Int) := n1.1.trans hq
  intro K hK
  refine y_Rm (D' := 1) (cs_feed c1 hy1 hv11 hq160 ?_ ?_ ?_) (by decide)
  · intro g1
    refine hK _ _ _ _ _ m1 (fun K2 h2 => y_Rm (D' := 2) (ms_feed m1 hy1 hq hq160 ?_ ?_ ?_) (by decide))
    all_goals intros
    all_goals first | (exfalso; omega) | exact h2 _ _ _ _ _ hR2 (fun _ => rfl)
  · intro g1 g2
    refine hK _ _ _ _ _ m1 (fun K2 h2 => y_Rm (D' := 2) (ms_feed m1 hy1 hq hq160 ?_ ?_ ?_) (by decide))
    all_goals intros
    all_goals first | (exfalso; omega) | exact h2 _ _ _ _ _ hR2 (fun _ => rfl)
  · intro r hr g1 g2
    have f171 : (v_up (v_ur V 2 (z_fd z r q (V 2))) 1 1 ((q + r : Nat) : Int)) 171 = V 171 := (v_up_ne (by decide)).trans (v_ur_ne (by decide))
    have hs7 : ∀ i : Nat, i ≠ 6 → (i < 10 + q ∨ 10 + q + r ≤ i) → v_uf (z_fd z r (10 + q) (V 171)) 6 ((q + r : Nat) : Int) i = V 171 i := fun i a b => by rw [v_uf_ne a, z_fd_ne _ _ _ _ b]
    have hrn : RN (v_up (v_ur V 2 (z_fd z r q (V 2))) 1 1 ((q + r : Nat) : Int)) 1 (v_uf (z_fd z r (10 + q) (V 171)) 6 ((q + r : Nat) : Int)) := by
      refine RN_g c2.1 ⟨rfl, n1.2.1.trans (hs7 0 (by decide) (by omega)).symm, n1.2.2.1.trans (hs7 1 (by decide) (by omega)).symm, n1.2.2.2.1.trans (hs7 2 (by decide) (by omega)).symm, n1.2.2.2.2.1.trans (hs7 3 (by decide) (by omega)).symm, n1.2.2.2.2.2.1.trans (hs7 4 (by decide) (by omega)).symm, n1.2.2.2.2.2.2.trans (hs7 5 (by decide) (by omega)).symm⟩ (fun i hi => ?_) (fun i hi => ?_) (fun k a b => by rw [v_up_ne (by omega), v_ur_ne (by omega)]) (fun j a b => hs7 j (by omega) (by omega)) (hs7 1 (by decide) (by omega))
      · rw [v_up_ne (by decide), v_ur_eq, v_uf_ne (by omega)]
        exact z_fd_sh r q (V 2) (V 171) n2 g2 i hi
      · rw [v_up_ne (by decide), v_ur_ne (by decide), hs7 _ (by omega) (by omega)]
        exact n3 i hi
    have hso : SO cnt (v_uf (z_fd z r (10 + q) (V 171)) 6 ((q + r : Nat) : Int)) := by
      refine SO_g p1 ⟨by rw [hs7 0 (by decide) (by omega)]; exact hsz.1, by rw [hs7 1 (by decide) (by omega)]; exact hsz.2.1, by rw [hs7 2 (by decide) (by omega)]; exact hsz.2.2.1, by rw [hs7 3 (by decide) (by omega)]; exact hsz.2.2.2.1, by rw [hs7 4 (by decide) (by omega)]; exact hsz.2.2.2.2.1, by rw [hs7 5 (by decide) (by omega)]; exact hsz.2.2.2.2.2.1, by rw [v_uf_eq]; omega⟩ (fun i hi => ?_) (fun i hi => ?_) (fun j a b => hs7 j (by omega) (by omega)) (hs7 0 (by decide) (by omega)) (hs7 1 (by decide) (by omega)) (hs7 3 (by decide) (by omega)) (hs7 5 (by decide) (by omega))
      · rw [v_uf_ne (by omega)]
        have := z_fd_rg (x := z) r (10 + q) (V 171) (fun j => by
          by_cases hj : 10 ≤ j ∧ j < 170
          · have := p1.2.1 (j - 10) (by omega)
            rw [show 10 + (j - 10) = j by omega] at this
            omega
          · exact Or.inr hj) (10 + i)
        omega
      · rw [hs7 _ (by omega) (by omega), hs7 2 (by decide) (by omega), hs7 1 (by decide) (by omega)]
        exact p1.2.2.2.2.1 i hi
    refine hK _ _ _ _ _ m1 (fun K2 h2 => y_Rm (D' := 2) (ms_feed m1 hy1 (by rw [f171]; exact hq) hq160 ?_ ?_ ?_) (by decide))
    · intro j1; exfalso; omega
    · intro j1 j2; exfalso; omega
    · intro r2 hr2 j1 j2
      obtain rfl : r2 = r := by omega
      rw [f171]
      exact h2 _ _ _ _ _ (RR_n hC0 hM0 hP0 hZ hrn (SO_le hso (Nat.le_succ cnt)) (fun k hk => by rw [v_up_ne (by omega), v_ur_ne (by omega)]) (hs7 0 (by decide) (by omega)) (hs7 3 (by decide) (by omega)) (hs7 5 (by decide) (by omega)) (fun j hj => hs7 j (by omega) (by omega)) (v_ur_eq _ _ _) (fun k hk => v_ur_ne hk)) (fun _ => rfl)
end
