/-! pairs of calls that change nothing, more of them -/
def lnA (l : List p_Li) (y : Int) : Int := if y = -1 then (l.length : Int) else match m_nth l y.toNat with | some x => (x.2.2.2.length : Int) | none => -1
section
variable {X : Nat → List Int32} {u w : Nat} {S : m_H} {V : v_V} {K : v_K}
set_option maxRecDepth 100000 in
set_option maxHeartbeats 4000000 in
theorem cs_lin (hC : ClF S) {tl : Nat → List p_Li} {cnt : Nat} {σ : Nat → Int} (hRS : RS S V 1 σ tl) (hSO : SO cnt σ) (hTO : ∀ i : Nat, (i : Int) < σ 0 → TO (tl i)) {x : Int} (hx : (-2147483648 ≤ x ∧ x < 2147483648)) {y : Int} (hy : (-2147483648 ≤ y ∧ y < 2147483648)) (k0 : ¬ ((0 ≤ x ∧ x < σ 0) ∧ -1 ≤ y ∧ y < (tl x.toNat).length) → K u w (some (iv (-1))) S V) (k1 : ((0 ≤ x ∧ x < σ 0) ∧ -1 ≤ y ∧ y < (tl x.toNat).length) → K u w (some (iv (lnA (tl x.toNat) y))) S V) : y_R X 2 72 u w [.ref 0, iv x, iv y] S V K := by
  obtain ⟨n1, n2, n3, n4⟩ := hRS.1
  have hsz := hSO.1
  obtain ⟨ta, hT, hTt⟩ := TAx_RT hRS.2.1 hRS.1 hSO
  obtain ⟨al, hal⟩ : ∃ al : Nat, σ 5 = (al : Int) := ⟨(σ 5).toNat, by omega⟩
  have hal5 : al ≤ 5 := by omega
  have hpq : ∀ q : Nat, q < al → pkO (σ (1770 + 4 * q)) (σ (1770 + 4 * q + 1)) (σ (1770 + 4 * q + 2)) (σ (1770 + 4 * q + 3)) := fun q hq => hSO.2.2.2.2.2.2 q (by omega)
  refine y_ent (lv' := [(0, .ref 0), (1, iv x), (2, iv y)]) (Nat.le_of_ble_eq_true rfl) rfl ?_
  refine y_ld (x := .ref 0) rfl rfl (fun d => rfl) ?_
  refine y_gR (i := 0) rfl rfl rfl (hC 0 _ _ rfl) rfl ?_
  refine y_ld (x := iv x) rfl rfl (fun d => rfl) ?_
  refine y_cV (as := [.ref 1, iv x]) rfl rfl rfl rfl rfl (hC 1 _ _ rfl) ⟨rfl, (Nat.le_of_ble_eq_true rfl), (Nat.le_of_ble_eq_true rfl)⟩ (by decide) (cb_textAt (x := x) hC hT (by omega) (fun gT1 => ?_) (fun (t : Nat) gT1 ht1a ht1b ht1c => ?_))
  · refine y_nv ?_
    refine y_st (lv' := [(3, .null), (0, .ref 0), (1, iv x), (2, iv y)]) rfl rfl (fun d => rfl) ?_
    refine y_ld (x := .null) rfl rfl (fun d => rfl) ?_
    refine y_in (pc' := 26) rfl rfl (fun d => rfl) ?_
    refine y_ic rfl rfl ?_
    refine y_rI rfl (Or.inl rfl) ?_
    exact k0 (by omega)
  · obtain ⟨-, -, hct1⟩ := hTt x.toNat t (by omega) ht1a
    refine y_nv ?_
    refine y_st (lv' := [(3, .ref t), (0, .ref 0), (1, iv x), (2, iv y)]) rfl rfl (fun d => rfl) ?_
    refine y_ld (x := .ref t) rfl rfl (fun d => rfl) ?_
    refine y_in (pc' := 13) rfl rfl (fun d => rfl) ?_
    refine y_ld (x := iv y) rfl rfl (fun d => rfl) ?_
    refine y_ic rfl rfl ?_
    refine y_jlt rfl rfl rfl (by omega) (fun g1 => ?_) (fun g1 => ?_)
    · refine y_ic rfl rfl ?_
      refine y_rI rfl (Or.inl rfl) ?_
      exact k0 (by omega)
    · have hl := hTO x.toNat (by omega)
      have hl8 := hl.2.2.1
      have ht0 := hct1.1
      refine y_ld (x := iv y) rfl rfl (fun d => rfl) ?_
      refine y_ld (x := .ref t) rfl rfl (fun d => rfl) ?_
      refine y_gI (i := 0) (e := (V t 0)) rfl rfl rfl ht1c.1 rfl rfl ?_
      refine y_jlt rfl rfl rfl (by omega) (fun g2 => ?_) (fun g2 => ?_)
      · refine y_ld (x := iv y) rfl rfl (fun d => rfl) ?_
        refine y_ic rfl rfl ?_
        refine y_jne rfl rfl rfl (by omega) (fun g3 => ?_) (fun g3 => ?_)
        · refine y_ld (x := .ref t) rfl rfl (fun d => rfl) ?_
          refine y_gR (i := 4) rfl rfl rfl ht1c.1 rfl ?_
          refine y_ld (x := iv y) rfl rfl (fun d => rfl) ?_
          refine y_ild (x := (V (t + 4) y.toNat)) (q := y.toNat) rfl rfl ht1c.2.2.2.2.1 (by omega) (by decide) rfl rfl ?_
          refine y_rI rfl (Or.inl rfl) ?_
          have k2 := k1 (by omega)
          obtain ⟨x9, hx9⟩ : ∃ x9, m_nth (tl x.toNat) y.toNat = some x9 := ⟨_, by rw [m_nth_eq]; exact List.getElem?_eq_getElem (by omega)⟩
          have e9 : lnA (tl x.toNat) y = V (t + 4) y.toNat := by
            unfold lnA
            rw [if_neg (by omega), hx9, (hct1.2.2.2.1 _ _ hx9).2.2.2]
          rwa [e9] at k2
        · refine y_ld (x := .ref t) rfl rfl (fun d => rfl) ?_
          refine y_gI (i := 0) (e := (V t 0)) rfl rfl rfl ht1c.1 rfl rfl ?_
          refine y_go rfl rfl ?_
          refine y_rI rfl (Or.inl rfl) ?_
          have k2 := k1 (by omega)
          have e9 : lnA (tl x.toNat) y = V t 0 := by
            unfold lnA
            rw [if_pos (by omega), ht0]
          rwa [e9] at k2
      · refine y_ic rfl rfl ?_
        refine y_rI rfl (Or.inl rfl) ?_
        exact k0 (by omega)
end
section
variable {X : Nat → List Int32} {u w cnt : Nat} {S : m_H} {V : v_V}
set_option maxRecDepth 100000 in
set_option maxHeartbeats 4000000 in
theorem pr_whole (hR : RR cnt u w S V) {x : Int} (hx1 : (-2147483648 ≤ x ∧ x < 2147483648)) {y : Int} (hy1 : (-2147483648 ≤ y ∧ y < 2147483648)) {q : Int} (hq1 : (-2147483648 ≤ q ∧ q < 2147483648)) : PR X True 84 150 [.ref 0, iv x, iv y, iv q] [.ref 170, iv x, iv y, iv q] cnt u w S V := by
  have hR2 := RR_le hR (Nat.le_succ cnt)
  obtain ⟨tl, hC, hM, hP, hZ⟩ := hR
  have hC0 := hC
  have hM0 := hM
  have hP0 := hP
  obtain ⟨c1, c2, c3, c4, c5, c6, c7, c8⟩ := hC
  obtain ⟨m1, -, -, m4, m5, m6⟩ := hM
  obtain ⟨p1, p2, p3, p4⟩ := hP
  obtain ⟨n1, n2, n3, n4⟩ := c2.1
  have hsz := p1.1
  intro K hK
  refine y_Rm (D' := 4) (cs_whole c1 c2 p1 hx1 hy1 hq1 ?_ ?_ ?_ ?_) (by decide)
  all_goals intros
  all_goals refine hK _ _ _ _ _ m1 (fun K2 h2 => y_Rm (D' := 4) (ms_whole m1 p1 hx1 hy1 hq1 ?_ ?_ ?_ ?_) (by decide))
  all_goals intros
  all_goals first | contradiction | (exfalso; omega) | exact h2 _ _ _ _ _ hR2 (fun _ => by rfl)
set_option maxRecDepth 100000 in
set_option maxHeartbeats 4000000 in
theorem pr_cell (hR : RR cnt u w S V) {x : Int} (hx1 : (-2147483648 ≤ x ∧ x < 2147483648)) {l : Int} (hl1 : (-2147483648 ≤ l ∧ l < 2147483648)) {d : Int} (hd1 : (-2147483648 ≤ d ∧ d < 2147483648)) {o : Int} (ho1 : (-2147483648 ≤ o ∧ o < 2147483648)) : PR X True 76 138 [.ref 0, iv x, iv l, iv d, iv o] [.ref 170, iv x, iv l, iv d, iv o] cnt u w S V := by
  have hR2 := RR_le hR (Nat.le_succ cnt)
  obtain ⟨tl, hC, hM, hP, hZ⟩ := hR
  have hC0 := hC
  have hM0 := hM
  have hP0 := hP
  obtain ⟨c1, c2, c3, c4, c5, c6, c7, c8⟩ := hC
  obtain ⟨m1, -, -, m4, m5, m6⟩ := hM
  obtain ⟨p1, p2, p3, p4⟩ := hP
  obtain ⟨n1, n2, n3, n4⟩ := c2.1
  have hsz := p1.1
  intro K hK
  refine y_Rm (D' := 2) (cs_cell c1 (by omega) hx1 hl1 hd1 ho1 ?_ ?_ ?_ ?_ ?_ ?_ ?_ ?_ ?_ ?_ ?_ ?_ ?_ ?_) (by decide)
  all_goals intros
  all_goals refine hK _ _ _ _ _ m1 (fun K2 h2 => y_Rm (D' := 3) (ms_cell m1 (by omega) hx1 hl1 hd1 ho1 ?_ ?_ ?_ ?_ ?_ ?_ ?_ ?_ ?_ ?_ ?_ ?_ ?_ ?_ ?_ ?_ ?_ ?_) (by decide))
  all_goals intros
  all_goals first | (exfalso; omega) | exact h2 _ _ _ _ _ hR2 (fun _ => by first | rfl | (rw [(n4 x.toNat (by omega)).2.2.2.2.2.2.1 _ (by unfold z_pl; (repeat' split) <;> omega)]; congr 1; unfold z_pl; (repeat' split) <;> omega))
set_option maxRecDepth 100000 in
set_option maxHeartbeats 4000000 in
theorem pr_as (hXa : X 2 = m_above) (h3X : X 3 = []) (hR : RR cnt u w S V) {x : Int} (hx1 : (-2147483648 ≤ x ∧ x < 2147483648)) {y : Int} (hy1 : (-2147483648 ≤ y ∧ y < 2147483648)) : PR X True 93 175 [.ref 0, iv x, iv y] [.ref 170, iv x, iv y] cnt u w S V := by
  have hR2 := RR_le hR (Nat.le_succ cnt)
  obtain ⟨tl, hC, hM, hP, hZ⟩ := hR
  have hC0 := hC
  have hM0 := hM
  have hP0 := hP
  obtain ⟨c1, c2, c3, c4, c5, c6, c7, c8⟩ := hC
  obtain ⟨m1, -, -, m4, m5, m6⟩ := hM
  obtain ⟨p1, p2, p3, p4⟩ := hP
  obtain ⟨n1, n2, n3, n4⟩ := c2.1
  have hsz := p1.1
  have e1 : 0 ≤ x ∧ x < V 171 1 → V (10 + 6 * x.toNat) 1 = V 171 (170 + x.toNat) := fun a => (n4 x.toNat (by omega)).2.1
  have e2 : 0 ≤ x ∧ x < V 171 1 → V (10 + 6 * x.toNat) 2 = V 171 (178 + x.toNat) := fun a => (n4 x.toNat (by omega)).2.2.1
  intro K hK
  refine y_Rm (D' := 2) (cs_as c1 (by omega) hXa h3X hx1 hy1 (fun b hb => by rw [(n4 b hb).2.1]; exact (p1.2.2.1 b hb).1) ?_ ?_ ?_ ?_ ?_ ?_ ?_ ?_ ?_ ?_ ?_ ?_ ?_ ?_ ?_ ?_ ?_ ?_ ?_ ?_ ?_ ?_ ?_ ?_ ?_ ?_ ?_ ?_ ?_ ?_ ?_ ?_ ?_) (by decide)
  all_goals intros
  all_goals refine hK _ _ _ _ _ m1 (fun K2 h2 => y_Rm (D' := 3) (ms_as m1 (by omega) hx1 hy1 (fun b hb => (p1.2.2.1 b hb).1) ?_ ?_ ?_ ?_) (by decide))
  all_goals intros
  all_goals first | (exfalso; omega) | exact h2 _ _ _ _ _ hR2 (fun _ => by first | rfl | omega)
end
